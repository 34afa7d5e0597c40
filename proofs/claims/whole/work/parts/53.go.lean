set_option maxRecDepth 20000 in
set_option maxHeartbeats 4000000 in
theorem x_seed (l : Launch) (d : Nat) (h : MH) (n : Nat) (K : KK) (b : Bool) (KI : KK) (S : SS) (m : Nat) (hc : ClsAt h K b KI S) (hT : TI K m) (x : Int32) : Sp l mX5_seed d [.ref 0, .int x] h n 0 0 (Qx (K 95) (upd K 95 x) b KI S h n) := by
  have hD := hT.1
  have hm := hD.1.1
  have hm10 := hD.1.2.1
  obtain ⟨ht0, ⟨sq, hsq, esq⟩, ⟨cl, P, pn, hw, hPR⟩, ⟨Km, clm, Pm, pm, hwm⟩, ⟨KJ, clJ, PJ, pJ, hwJ, hJ⟩, ⟨rb, rx, ry, hrd⟩, hsc, ⟨co, hco⟩, ⟨se, hse⟩, hsh⟩ := id hc
  obtain ⟨hw0, ⟨gr, hgr, egr⟩, ⟨ru, hru, eru⟩, ⟨pq, hpf, epf⟩, hpl, ⟨fl, hfl, efl⟩, ⟨ca, hca, eca⟩, ⟨wa, hwa⟩, hpp, hhd⟩ := id hw
  show V _ _ _ _ [some (.ref 0), some (.int x), none] _ _ _ _ _ _
  refine V.aload_n dX5_seed_0 rfl ?_
  refine V.getf dX5_seed_1 fl_X5_18 ht0 rfl ?_
  refine V.getf dX5_seed_4 fl_X5_169 hw0 rfl ?_
  refine V.ist2 dX5_seed_7 (by decide) rfl ?_
  refine V.aload_n dX5_seed_8 rfl ?_
  refine V.getf dX5_seed_9 fl_X5_18 ht0 rfl ?_
  refine V.iload_n dX5_seed_12 rfl ?_
  refine V.putf dX5_seed_13 fp_X5_169 hw0 (Nat.le_of_ble_eq_true rfl) (fun _ => ⟨rfl, rfl⟩) ?_
  refine V.iload_n dX5_seed_16 rfl ?_
  exact V.iret (by exact dX5_seed_17) rfl rfl ⟨rfl, rfl, hc.wood (hw.ob 95 x (by omega) (by omega)) (PR_lo hPR (fun j h1 h2 => pk_un (by omega))) ((Out.rf h 2).set _ _ (by omega) (by omega)), fun q hq => hset_ne _ _ (by omega)⟩
set_option maxRecDepth 20000 in
set_option maxHeartbeats 4000000 in
theorem m_seed (l : Launch) (d : Nat) (h : MH) (n : Nat) (K : KK) (b : Bool) (KI : KK) (S : SS) (m : Nat) (hc : ModAt h K b KI S) (hT : TI K m) (x : Int32) : Sp l mX6_seed d [.ref 78, .int x] h n 0 0 (Qm (K 95) (upd K 95 x) b KI S h n) := by
  have hD := hT.1
  have hm := hD.1.1
  have hm10 := hD.1.2.1
  obtain ⟨⟨th, po, ba, en, tt, hm0⟩, ha, hb, ⟨Km, hmi⟩, ⟨Kr, hre⟩, h83, h84, h85, h86, h87, h88, ⟨X89, h89⟩, ⟨X90, h90⟩, ⟨X91, h91⟩, ⟨X92, h92⟩⟩ := id hc
  show V _ _ _ _ [some (.ref 78), some (.int x), none] _ _ _ _ _ _
  refine V.aload_n dX6_seed_0 rfl ?_
  refine V.getf dX6_seed_1 fl_X6_9 hm0 rfl ?_
  refine V.bipush (v := nI 95) dX6_seed_4 (by decide) ?_
  refine V.ialdN dX6_seed_6 ha (by omega) (by decide) ?_
  refine V.ist2 dX6_seed_7 (by decide) rfl ?_
  refine V.aload_n dX6_seed_8 rfl ?_
  refine V.getf dX6_seed_9 fl_X6_9 hm0 rfl ?_
  refine V.bipush (v := nI 95) dX6_seed_12 (by decide) ?_
  refine V.iload_n dX6_seed_14 rfl ?_
  refine V.iastN dX6_seed_15 ha (by omega) (by decide) ?_
  refine V.iload_n dX6_seed_16 rfl ?_
  exact V.iret (by exact dX6_seed_17) rfl rfl ⟨rfl, rfl, hc.s _, fun q hq => hset_ne _ _ (by omega)⟩
set_option maxRecDepth 20000 in
set_option maxHeartbeats 4000000 in
theorem x_anew (l : Launch) (d : Nat) (h : MH) (n : Nat) (K : KK) (b : Bool) (KI : KK) (S : SS) (m : Nat) (hc : ClsAt h K b KI S) (hT : TI K m) : Sp l mX5_anew (d + 2) [.ref 0] h n 0 0 (Qx (K 90) (bgn K m (K 95)) b KI S h n) := by
  have hD := hT.1
  have hm := hD.1.1
  have hm10 := hD.1.2.1
  obtain ⟨ht0, ⟨sq, hsq, esq⟩, ⟨cl, P, pn, hw, hPR⟩, ⟨Km, clm, Pm, pm, hwm⟩, ⟨KJ, clJ, PJ, pJ, hwJ, hJ⟩, ⟨rb, rx, ry, hrd⟩, hsc, ⟨co, hco⟩, ⟨se, hse⟩, hsh⟩ := id hc
  obtain ⟨hw0, ⟨gr, hgr, egr⟩, ⟨ru, hru, eru⟩, ⟨pq, hpf, epf⟩, hpl, ⟨fl, hfl, efl⟩, ⟨ca, hca, eca⟩, ⟨wa, hwa⟩, hpp, hhd⟩ := id hw
  show V _ _ _ _ [some (.ref 0)] _ _ _ _ _ _
  refine V.aload_n dX5_anew_0 rfl ?_
  refine V.getf dX5_anew_1 fl_X5_18 ht0 rfl ?_
  refine V.aload_n dX5_anew_4 rfl ?_
  refine V.getf dX5_anew_5 fl_X5_18 ht0 rfl ?_
  refine V.getf dX5_anew_8 fl_X5_169 hw0 rfl ?_
  refine V.callVw [_] dX5_anew_11 lk_X5_172 rfl (Nat.le_of_ble_eq_true rfl) (Nat.le_of_ble_eq_true rfl) hw0 rfl (s4_begin _ _ _ _ _ m _ _ _ _ _ hm hm10 (hw.wb m)) (fun h1 hw1 ho1 => ?_)
  have ht1 := (ho1 0 (by omega)).trans ht0
  refine V.aload_n dX5_anew_14 rfl ?_
  refine V.getf dX5_anew_15 fl_X5_18 ht1 rfl ?_
  refine V.getf dX5_anew_18 fl_X5_144 hw1.1 rfl ?_
  exact V.iret (by exact dX5_anew_21) rfl rfl ⟨congrArg (fun x => some (Value.int x)) (bgn_lo K m (K 95) 90 (by omega)), rfl, hc.wood hw1 (PR_bgn hPR m _) ho1, fun q hq => ho1 q (by omega)⟩
set_option maxRecDepth 20000 in
set_option maxHeartbeats 4000000 in
theorem m_anew (l : Launch) (d : Nat) (h : MH) (n : Nat) (K : KK) (b : Bool) (KI : KK) (S : SS) (m : Nat) (hc : ModAt h K b KI S) (hT : TI K m) : Sp l mX6_anew (d + 2) [.ref 78] h n 0 0 (Qm (K 90) (bgn K m (K 95)) b KI S h n) := by
  have hD := hT.1
  have hm := hD.1.1
  have hm10 := hD.1.2.1
  obtain ⟨⟨th, po, ba, en, tt, hm0⟩, ha, hb, ⟨Km, hmi⟩, ⟨Kr, hre⟩, h83, h84, h85, h86, h87, h88, ⟨X89, h89⟩, ⟨X90, h90⟩, ⟨X91, h91⟩, ⟨X92, h92⟩⟩ := id hc
  show V _ _ _ _ [some (.ref 78)] _ _ _ _ _ _
  refine V.aload_n dX6_anew_0 rfl ?_
  refine V.getf dX6_anew_1 fl_X6_9 hm0 rfl ?_
  refine V.callSu [_] dX6_anew_4 lk_X6_52 rfl (Nat.le_of_ble_eq_true rfl) (Nat.le_of_ble_eq_true rfl) (s6_begins _ _ _ _ _ K ha m hm hm10 (fun p hp => hT.2.1 p (by omega))) ?_
  refine V.aload_n dX6_anew_7 rfl ?_
  refine V.getf dX6_anew_8 fl_X6_9 (o_ne hm0 (by decide)) rfl ?_
  refine V.bipush (v := nI 90) dX6_anew_11 (by decide) ?_
  refine V.ialdN dX6_anew_13 (hset_self _ _ _) (by omega) (by decide) ?_
  exact V.iret (by exact dX6_anew_14) rfl rfl ⟨congrArg (fun x => some (Value.int x)) (bgn_lo K m (K 95) 90 (by omega)), rfl, hc.s _, fun q hq => hset_ne _ _ (by omega)⟩
set_option maxRecDepth 20000 in
set_option maxHeartbeats 4000000 in
theorem x_image (l : Launch) (d : Nat) (h : MH) (n : Nat) (K : KK) (b : Bool) (KI : KK) (S : SS) (m : Nat) (hc : ClsAt h K b KI S) (hT : TI K m) : Sp l mX5_image (d + 2) [.ref 0] h n 0 0 (Qx (K 91) K true K S h n) := by
  have hD := hT.1
  have hm := hD.1.1
  have hm10 := hD.1.2.1
  obtain ⟨ht0, ⟨sq, hsq, esq⟩, ⟨cl, P, pn, hw, hPR⟩, ⟨Km, clm, Pm, pm, hwm⟩, ⟨KJ, clJ, PJ, pJ, hwJ, hJ⟩, ⟨rb, rx, ry, hrd⟩, hsc, ⟨co, hco⟩, ⟨se, hse⟩, hsh⟩ := id hc
  obtain ⟨hw0, ⟨gr, hgr, egr⟩, ⟨ru, hru, eru⟩, ⟨pq, hpf, epf⟩, hpl, ⟨fl, hfl, efl⟩, ⟨ca, hca, eca⟩, ⟨wa, hwa⟩, hpp, hhd⟩ := id hw
  show V _ _ _ _ [some (.ref 0)] _ _ _ _ _ _
  refine V.aload_n dX5_image_0 rfl ?_
  refine V.getf dX5_image_1 fl_X5_25 ht0 rfl ?_
  refine V.aload_n dX5_image_4 rfl ?_
  refine V.getf dX5_image_5 fl_X5_18 ht0 rfl ?_
  refine V.callVw [_] dX5_image_8 lk_X5_51 rfl (Nat.le_of_ble_eq_true rfl) (Nat.le_of_ble_eq_true rfl) hwJ.1 rfl (s4_become _ _ _ _ 38 2 _ _ _ _ _ _ _ _ (by omega) hwJ hw) (fun h1 hw1 ho1 => ?_)
  have ht1 := (ho1 0 (by omega)).trans ht0
  have hw2 := (ho1 2 (by omega)).trans hw0
  refine V.aload_n dX5_image_11 rfl ?_
  refine V.iconst (v := nI 1) dX5_image_12 (by decide) ?_
  refine V.putf dX5_image_13 fp_X5_249 ht1 (Nat.le_of_ble_eq_true rfl) (fun _ => nz_one) ?_
  refine V.aload_n dX5_image_16 rfl ?_
  refine V.getf dX5_image_17 fl_X5_18 (hset_self _ _ _) rfl ?_
  refine V.getf dX5_image_20 fl_X5_154 (o_ne hw2 (by omega)) rfl ?_
  exact V.iret (by exact dX5_image_23) rfl rfl ⟨rfl, rfl, hc.img hw1 hPR ho1, fun q hq => (hset_ne _ _ (by omega)).trans (ho1 q (by omega))⟩
set_option maxRecDepth 20000 in
set_option maxHeartbeats 4000000 in
theorem m_image_loop (l : Launch) (d n : Nat) (h : MH) (K : KK) (b : Bool) (th po ba en tt : Int32) (hm0 : h 78 = some (.inr (6, moF b th po ba en tt))) (hs : h 79 = some (kc K)) {Q : Option Value → MH → Nat → Prop} (kk : V l mX6_image d 27 [some (.ref 78), none] [] (hset h 80 (kc K)) n 0 0 Q) : ∀ (r i : Nat) (X : KK), (∀ j, j < i → X j = K j) → i + r = 184 → V l mX6_image d 2 [some (.ref 78), some (.int (nI i))] [] (hset h 80 (kc X)) n 0 0 Q := by
  intro r
  induction r with
  | zero =>
    intro i X hX hi
    refine V.iload_n dX6_image_2 rfl ?_
    refine V.sipush (v := nI 184) dX6_image_3 (by decide) ?_
    refine V.icmp_geN (tgt := 27) dX6_image_6 (by decide) (by omega) (by omega) (fun _ => ?_) (fun q => absurd q (by omega))
    refine V.drop 1 (V.ext (g := K) (hset_self _ _ _) (fun j hj => (hX j (by omega)).symm) ?_)
    rw [hset_hset]
    exact kk
  | succ r ih =>
    intro i X hX hi
    refine V.iload_n dX6_image_2 rfl ?_
    refine V.sipush (v := nI 184) dX6_image_3 (by decide) ?_
    refine V.icmp_geN (tgt := 27) dX6_image_6 (by decide) (by omega) (by omega) (fun q => absurd q (by omega)) (fun _ => ?_)
    refine V.aload_n dX6_image_9 rfl ?_
    refine V.getf dX6_image_10 fl_X6_13 (o_ne hm0 (by decide)) rfl ?_
    refine V.iload_n dX6_image_13 rfl ?_
    refine V.aload_n dX6_image_14 rfl ?_
    refine V.getf dX6_image_15 fl_X6_9 (o_ne hm0 (by decide)) rfl ?_
    refine V.iload_n dX6_image_18 rfl ?_
    refine V.ialdN dX6_image_19 (o_ne hs (by decide)) (by omega) (by decide) ?_
    refine V.iastN dX6_image_20 (hset_self _ _ _) (by omega) (by decide) ?_
    rw [hset_hset]
    refine V.inN1 dX6_image_21 (by decide) rfl ?_
    refine V.goto (tgt := 2) dX6_image_24 (by decide) ?_
    refine ih (i + 1) _ (fun j hj => ?_) (by omega)
    by_cases y : j = i
    · subst y; rw [pk_us]
    · rw [pk_un y]; exact hX j (by omega)
set_option maxRecDepth 20000 in
set_option maxHeartbeats 4000000 in
theorem m_restore_loop (l : Launch) (d n : Nat) (h : MH) (K : KK) (b : Bool) (th po ba en tt : Int32) (hm0 : h 78 = some (.inr (6, moF b th po ba en tt))) (hs : h 80 = some (kc K)) {Q : Option Value → MH → Nat → Prop} (kk : V l mX6_restore d 37 [some (.ref 78), none] [] (hset h 79 (kc K)) n 0 0 Q) : ∀ (r i : Nat) (X : KK), (∀ j, j < i → X j = K j) → i + r = 184 → V l mX6_restore d 12 [some (.ref 78), some (.int (nI i))] [] (hset h 79 (kc X)) n 0 0 Q := by
  intro r
  induction r with
  | zero =>
    intro i X hX hi
    refine V.iload_n dX6_restore_12 rfl ?_
    refine V.sipush (v := nI 184) dX6_restore_13 (by decide) ?_
    refine V.icmp_geN (tgt := 37) dX6_restore_16 (by decide) (by omega) (by omega) (fun _ => ?_) (fun q => absurd q (by omega))
    refine V.drop 1 (V.ext (g := K) (hset_self _ _ _) (fun j hj => (hX j (by omega)).symm) ?_)
    rw [hset_hset]
    exact kk
  | succ r ih =>
    intro i X hX hi
    refine V.iload_n dX6_restore_12 rfl ?_
    refine V.sipush (v := nI 184) dX6_restore_13 (by decide) ?_
    refine V.icmp_geN (tgt := 37) dX6_restore_16 (by decide) (by omega) (by omega) (fun q => absurd q (by omega)) (fun _ => ?_)
    refine V.aload_n dX6_restore_19 rfl ?_
    refine V.getf dX6_restore_20 fl_X6_9 (o_ne hm0 (by decide)) rfl ?_
    refine V.iload_n dX6_restore_23 rfl ?_
    refine V.aload_n dX6_restore_24 rfl ?_
    refine V.getf dX6_restore_25 fl_X6_13 (o_ne hm0 (by decide)) rfl ?_
    refine V.iload_n dX6_restore_28 rfl ?_
    refine V.ialdN dX6_restore_29 (o_ne hs (by decide)) (by omega) (by decide) ?_
    refine V.iastN dX6_restore_30 (hset_self _ _ _) (by omega) (by decide) ?_
    rw [hset_hset]
    refine V.inN1 dX6_restore_31 (by decide) rfl ?_
    refine V.goto (tgt := 12) dX6_restore_34 (by decide) ?_
    refine ih (i + 1) _ (fun j hj => ?_) (by omega)
    by_cases y : j = i
    · subst y; rw [pk_us]
    · rw [pk_un y]; exact hX j (by omega)
set_option maxRecDepth 20000 in
set_option maxHeartbeats 4000000 in
theorem m_image (l : Launch) (d : Nat) (h : MH) (n : Nat) (K : KK) (b : Bool) (KI : KK) (S : SS) (m : Nat) (hc : ModAt h K b KI S) (hT : TI K m) : Sp l mX6_image d [.ref 78] h n 0 0 (Qm (K 91) K true K S h n) := by
  have hD := hT.1
  have hm := hD.1.1
  have hm10 := hD.1.2.1
  obtain ⟨⟨th, po, ba, en, tt, hm0⟩, ha, hb, ⟨Km, hmi⟩, ⟨Kr, hre⟩, h83, h84, h85, h86, h87, h88, ⟨X89, h89⟩, ⟨X90, h90⟩, ⟨X91, h91⟩, ⟨X92, h92⟩⟩ := id hc
  show V _ _ _ _ [some (.ref 78), none] _ _ _ _ _ _
  refine V.iconst (v := nI 0) dX6_image_0 (by decide) ?_
  refine V.ist1 dX6_image_1 (by decide) rfl ?_
  refine V.hp (hset_id hb).symm (m_image_loop l d n h K b th po ba en tt hm0 ha ?_ 184 0 KI (fun j hj => absurd hj (by omega)) (by omega))
  refine V.aload_n dX6_image_27 rfl ?_
  refine V.iconst (v := nI 1) dX6_image_28 (by decide) ?_
  refine V.putf dX6_image_29 fp_X6_304 (o_ne hm0 (by decide)) (Nat.le_of_ble_eq_true rfl) (fun _ => nz_one) ?_
  refine V.aload_n dX6_image_32 rfl ?_
  refine V.getf dX6_image_33 fl_X6_9 (hset_self _ _ _) rfl ?_
  refine V.bipush (v := nI 91) dX6_image_36 (by decide) ?_
  refine V.ialdN dX6_image_38 (o_ne (o_ne ha (by decide)) (by decide)) (by omega) (by decide) ?_
  exact V.iret (by exact dX6_image_39) rfl rfl ⟨rfl, rfl, (hc.im K).ob true th po ba en tt, fun q hq => (hset_ne _ _ (by omega)).trans (hset_ne _ _ (by omega))⟩
def restoreV (b : Bool) (KI : KK) : Int32 := if b = true then KI 91 else -3
def restoreS (b : Bool) (K KI : KK) : KK := if b = true then KI else K
set_option maxRecDepth 20000 in
set_option maxHeartbeats 4000000 in
theorem x_restore (l : Launch) (d : Nat) (h : MH) (n : Nat) (K : KK) (b : Bool) (KI : KK) (S : SS) (m : Nat) (hc : ClsAt h K b KI S) (hT : TI K m) : Sp l mX5_restore (d + 2) [.ref 0] h n 0 0 (Qx (restoreV b KI) (restoreS b K KI) b KI S h n) := by
  have hD := hT.1
  have hm := hD.1.1
  have hm10 := hD.1.2.1
  obtain ⟨ht0, ⟨sq, hsq, esq⟩, ⟨cl, P, pn, hw, hPR⟩, ⟨Km, clm, Pm, pm, hwm⟩, ⟨KJ, clJ, PJ, pJ, hwJ, hJ⟩, ⟨rb, rx, ry, hrd⟩, hsc, ⟨co, hco⟩, ⟨se, hse⟩, hsh⟩ := id hc
  obtain ⟨hw0, ⟨gr, hgr, egr⟩, ⟨ru, hru, eru⟩, ⟨pq, hpf, epf⟩, hpl, ⟨fl, hfl, efl⟩, ⟨ca, hca, eca⟩, ⟨wa, hwa⟩, hpp, hhd⟩ := id hw
  show V _ _ _ _ [some (.ref 0)] _ _ _ _ _ _
  refine V.aload_n dX5_restore_0 rfl ?_
  refine V.getf dX5_restore_1 fl_X5_249 ht0 rfl ?_
  refine V.if_neB (tgt := 10) dX5_restore_4 (by decide) (fun c4 => ?_) (fun c4 => ?_)
  · refine V.aload_n dX5_restore_10 rfl ?_
    refine V.getf dX5_restore_11 fl_X5_18 ht0 rfl ?_
    refine V.aload_n dX5_restore_14 rfl ?_
    refine V.getf dX5_restore_15 fl_X5_25 ht0 rfl ?_
    obtain ⟨rfl, hPJ⟩ := hJ c4
    refine V.callVw [_] dX5_restore_18 lk_X5_51 rfl (Nat.le_of_ble_eq_true rfl) (Nat.le_of_ble_eq_true rfl) hw0 rfl (s4_become _ _ _ _ 2 38 _ _ _ _ _ _ _ _ (by omega) hw hwJ) (fun h1 hw1 ho1 => ?_)
    have ht1 := (ho1 0 (by omega)).trans ht0
    refine V.aload_n dX5_restore_21 rfl ?_
    refine V.getf dX5_restore_22 fl_X5_18 ht1 rfl ?_
    refine V.getf dX5_restore_25 fl_X5_154 hw1.1 rfl ?_
    exact V.iret (by exact dX5_restore_28) rfl rfl ⟨by rw [restoreV, if_pos c4], rfl, by rw [restoreS, if_pos c4]; exact hc.wood hw1 hPJ ho1, fun q hq => ho1 q (by omega)⟩
  · refine V.bipush (v := -3) dX5_restore_7 (by decide) ?_
    exact V.iret (by exact dX5_restore_9) rfl rfl ⟨by rw [restoreV, c4]; rfl, rfl, by rw [restoreS, if_neg (by rw [c4]; decide)]; exact hc, fun _ _ => rfl⟩
set_option maxRecDepth 20000 in
set_option maxHeartbeats 4000000 in
theorem m_restore (l : Launch) (d : Nat) (h : MH) (n : Nat) (K : KK) (b : Bool) (KI : KK) (S : SS) (m : Nat) (hc : ModAt h K b KI S) (hT : TI K m) : Sp l mX6_restore d [.ref 78] h n 0 0 (Qm (restoreV b KI) (restoreS b K KI) b KI S h n) := by
  have hD := hT.1
  have hm := hD.1.1
  have hm10 := hD.1.2.1
  obtain ⟨⟨th, po, ba, en, tt, hm0⟩, ha, hb, ⟨Km, hmi⟩, ⟨Kr, hre⟩, h83, h84, h85, h86, h87, h88, ⟨X89, h89⟩, ⟨X90, h90⟩, ⟨X91, h91⟩, ⟨X92, h92⟩⟩ := id hc
  show V _ _ _ _ [some (.ref 78), none] _ _ _ _ _ _
  refine V.aload_n dX6_restore_0 rfl ?_
  refine V.getf dX6_restore_1 fl_X6_304 hm0 rfl ?_
  refine V.if_neB (tgt := 10) dX6_restore_4 (by decide) (fun c4 => ?_) (fun c4 => ?_)
  · refine V.iconst (v := nI 0) dX6_restore_10 (by decide) ?_
    refine V.ist1 dX6_restore_11 (by decide) rfl ?_
    refine V.hp (hset_id ha).symm (m_restore_loop l d n h KI b th po ba en tt hm0 hb ?_ 184 0 K (fun j hj => absurd hj (by omega)) (by omega))
    refine V.aload_n dX6_restore_37 rfl ?_
    refine V.getf dX6_restore_38 fl_X6_9 (o_ne hm0 (by decide)) rfl ?_
    refine V.bipush (v := nI 91) dX6_restore_41 (by decide) ?_
    refine V.ialdN dX6_restore_43 (hset_self _ _ _) (by omega) (by decide) ?_
    exact V.iret (by exact dX6_restore_44) rfl rfl ⟨by rw [restoreV, if_pos c4], rfl, by rw [restoreS, if_pos c4]; exact hc.s KI, fun q hq => hset_ne _ _ (by omega)⟩
  · refine V.bipush (v := -3) dX6_restore_7 (by decide) ?_
    exact V.iret (by exact dX6_restore_9) rfl rfl ⟨by rw [restoreV, c4]; rfl, rfl, by rw [restoreS, if_neg (by rw [c4]; decide)]; exact hc, fun _ _ => rfl⟩
def goOk (K : KK) (x : Int32) : Bool := !decide (K 90 = 0) && !endB K
def goV (K : KK) (m : Nat) (x : Int32) : Int32 := if wi x (nI 1) (nI 100) = true then (if goOk K x = true then pl m x.toNatClampNeg K 91 else -3) else -1
def goS (K : KK) (m : Nat) (x : Int32) : KK := if wi x (nI 1) (nI 100) = true then (if goOk K x = true then pl m x.toNatClampNeg K else K) else K
theorem wi1_ex {x : Int32} {N : Nat} (hN : N < 2 ^ 31) (h : wi x (nI 1) (nI N) = true) : ∃ j : Nat, 1 ≤ j ∧ j ≤ N ∧ x = nI j := by
  simp only [wi, Bool.and_eq_true, decide_eq_true_eq] at h
  have h0 : ¬ x < 0 := Int32.not_lt.mpr (Int32.le_trans (by decide) h.1)
  obtain ⟨j, hj, rfl⟩ := nI_of h0
  exact ⟨j, (nI_leI (by omega) hj).mp h.1, (nI_leI hj hN).mp h.2, rfl⟩
set_option maxRecDepth 20000 in
set_option maxHeartbeats 4000000 in
theorem x_go_loop (l : Launch) (d n N m : Nat) (hN : N ≤ 100) (cl P : Nat → Int32) (pn : Nat) (h0 : MH) (b : Bool) (ht : h0 0 = some (.inr (5, tfF b))) : ∀ (r i : Nat) (K : KK) (h : MH), WoodAt h 2 K cl P pn → KD K m → PR K P pn → Out h0 h 2 → i + r = N → V l mX5_go (d + 6) 37 [some (.ref 0), some (.int (nI N)), some (.int (nI i))] [] h n 0 0 (fun v h1 n1 => v = some (.int (pl m r K 91)) ∧ n1 = n ∧ WoodAt h1 2 (pl m r K) cl P pn ∧ PR (pl m r K) P pn ∧ Out h0 h1 2) := by
  intro r
  induction r with
  | zero =>
    intro i K h hw hD hPR ho hi
    have ht0 := (ho 0 (by omega)).trans ht
    obtain ⟨hw0, ⟨gr, hgr, egr⟩, ⟨ru, hru, eru⟩, ⟨pq, hpf, epf⟩, hpl, ⟨fl, hfl, efl⟩, ⟨ca, hca, eca⟩, ⟨wa, hwa⟩, hpp, hhd⟩ := id hw
    refine V.iload_n dX5_go_37 rfl ?_
    refine V.iload_n dX5_go_38 rfl ?_
    refine V.icmp_geN (tgt := 65) dX5_go_39 (by decide) (by omega) (by omega) (fun _ => ?_) (fun q => absurd q (by omega))
    refine V.aload_n dX5_go_65 rfl ?_
    refine V.getf dX5_go_66 fl_X5_18 ht0 rfl ?_
    refine V.getf dX5_go_69 fl_X5_154 hw0 rfl ?_
    exact V.iret (by exact dX5_go_72) rfl rfl ⟨rfl, rfl, hw, hPR, ho⟩
  | succ r ih =>
    intro i K h hw hD hPR ho hi
    have ht0 := (ho 0 (by omega)).trans ht
    obtain ⟨hw0, ⟨gr, hgr, egr⟩, ⟨ru, hru, eru⟩, ⟨pq, hpf, epf⟩, hpl, ⟨fl, hfl, efl⟩, ⟨ca, hca, eca⟩, ⟨wa, hwa⟩, hpp, hhd⟩ := id hw
    refine V.iload_n dX5_go_37 rfl ?_
    refine V.iload_n dX5_go_38 rfl ?_
    refine V.icmp_geN (tgt := 65) dX5_go_39 (by decide) (by omega) (by omega) (fun q => absurd q (by omega)) (fun _ => ?_)
    refine V.aload_n dX5_go_42 rfl ?_
    refine V.getf dX5_go_43 fl_X5_18 ht0 rfl ?_
    refine V.callVv [] dX5_go_46 lk_X5_147 rfl (Nat.le_of_ble_eq_true rfl) (Nat.le_of_ble_eq_true rfl) hw0 rfl (s4_ended _ _ _ _ _ _ _ _ _ hw) ?_
    refine V.if_neB (tgt := 65) dX5_go_49 (by decide) (fun c49 => ?_) (fun c49 => ?_)
    · refine V.aload_n dX5_go_65 rfl ?_
      refine V.getf dX5_go_66 fl_X5_18 ht0 rfl ?_
      refine V.getf dX5_go_69 fl_X5_154 hw0 rfl ?_
      exact V.iret (by exact dX5_go_72) rfl rfl (by rw [pl, if_pos c49]; exact ⟨rfl, rfl, hw, hPR, ho⟩)
    · refine V.aload_n dX5_go_52 rfl ?_
      refine V.getf dX5_go_53 fl_X5_18 ht0 rfl ?_
      refine V.callVw [] dX5_go_56 lk_X5_151 rfl (Nat.le_of_ble_eq_true rfl) (Nat.le_of_ble_eq_true rfl) hw0 rfl (s4_tick _ _ _ _ _ _ _ _ _ hw m hD hPR) (fun h1 hw1 ho1 => ?_)
      refine V.inN2 dX5_go_59 (by decide) rfl ?_
      refine V.goto (tgt := 37) dX5_go_62 (by decide) ?_
      rw [pl, if_neg (by rw [c49]; decide)]
      exact ih (i + 1) (sec K m) h1 hw1 (KD_sec hD) (PR_sta hPR (Sta_sec K (Sta_rf m K))) (ho.tr ho1) (by omega)
set_option maxRecDepth 20000 in
set_option maxHeartbeats 4000000 in
theorem x_go (l : Launch) (d : Nat) (h : MH) (n : Nat) (K : KK) (b : Bool) (KI : KK) (S : SS) (m : Nat) (hc : ClsAt h K b KI S) (hT : TI K m) (x : Int32) : Sp l mX5_go (d + 6) [.ref 0, .int x] h n 0 0 (Qx (goV K m x) (goS K m x) b KI S h n) := by
  have hD := hT.1
  have hm := hD.1.1
  have hm10 := hD.1.2.1
  obtain ⟨ht0, ⟨sq, hsq, esq⟩, ⟨cl, P, pn, hw, hPR⟩, ⟨Km, clm, Pm, pm, hwm⟩, ⟨KJ, clJ, PJ, pJ, hwJ, hJ⟩, ⟨rb, rx, ry, hrd⟩, hsc, ⟨co, hco⟩, ⟨se, hse⟩, hsh⟩ := id hc
  obtain ⟨hw0, ⟨gr, hgr, egr⟩, ⟨ru, hru, eru⟩, ⟨pq, hpf, epf⟩, hpl, ⟨fl, hfl, efl⟩, ⟨ca, hca, eca⟩, ⟨wa, hwa⟩, hpp, hhd⟩ := id hw
  show V _ _ _ _ [some (.ref 0), some (.int x), none] _ _ _ _ _ _
  refine V.iload_n dX5_go_0 rfl ?_
  refine V.iconst (v := nI 1) dX5_go_1 (by decide) ?_
  refine V.bipush (v := nI 100) dX5_go_2 (by decide) ?_
  refine V.callSv [_, _, _] dX5_go_4 lk_X5_71 rfl (Nat.le_of_ble_eq_true rfl) (Nat.le_of_ble_eq_true rfl) (s5_within _ _ _ _ _ _ _) ?_
  refine V.if_neB (tgt := 12) dX5_go_7 (by decide) (fun c7 => ?_) (fun c7 => ?_)
  · refine V.aload_n dX5_go_12 rfl ?_
    refine V.getf dX5_go_13 fl_X5_18 ht0 rfl ?_
    refine V.getf dX5_go_16 fl_X5_144 hw0 rfl ?_
    refine V.if_eq (tgt := 32) dX5_go_19 (by decide) (fun c19 => ?_) (fun c19 => ?_)
    · refine V.bipush (v := -3) dX5_go_32 (by decide) ?_
      exact V.iret (by exact dX5_go_34) rfl rfl ⟨by simp only [goV, goOk, c7, eq_true c19, not_true_eq_false, not_false_eq_true, if_true, if_false, decide_true, decide_false, Bool.and_true, Bool.and_false, Bool.true_and, Bool.false_and, Bool.or_true, Bool.or_false, Bool.true_or, Bool.false_or, Bool.not_true, Bool.not_false, and_true, and_false, true_and, false_and, or_true, or_false, true_or, false_or, bIt, bIf, Bool.false_eq_true, reduceCtorEq], rfl, by simp only [goS, goOk, c7, eq_true c19, not_true_eq_false, not_false_eq_true, if_true, if_false, decide_true, decide_false, Bool.and_true, Bool.and_false, Bool.true_and, Bool.false_and, Bool.or_true, Bool.or_false, Bool.true_or, Bool.false_or, Bool.not_true, Bool.not_false, and_true, and_false, true_and, false_and, or_true, or_false, true_or, false_or, bIt, bIf, Bool.false_eq_true, reduceCtorEq]; exact hc, fun _ _ => rfl⟩
    · refine V.aload_n dX5_go_22 rfl ?_
      refine V.getf dX5_go_23 fl_X5_18 ht0 rfl ?_
      refine V.callVv [] dX5_go_26 lk_X5_147 rfl (Nat.le_of_ble_eq_true rfl) (Nat.le_of_ble_eq_true rfl) hw0 rfl (s4_ended _ _ _ _ _ _ _ _ _ hw) ?_
      refine V.if_eqB (tgt := 35) dX5_go_29 (by decide) (fun c29 => ?_) (fun c29 => ?_)
      · obtain ⟨N, hN1, hN, rfl⟩ := wi1_ex (by decide) c7
        have hok : goOk K (nI N) = true := by simp only [goOk, c7, c19, c29, not_true_eq_false, not_false_eq_true, if_true, if_false, decide_true, decide_false, Bool.and_true, Bool.and_false, Bool.true_and, Bool.false_and, Bool.or_true, Bool.or_false, Bool.true_or, Bool.false_or, Bool.not_true, Bool.not_false, and_true, and_false, true_and, false_and, or_true, or_false, true_or, false_or, bIt, bIf, Bool.false_eq_true, reduceCtorEq]
        refine V.iconst (v := nI 0) dX5_go_35 (by decide) ?_
        refine V.ist2 dX5_go_36 (by decide) rfl ?_
        refine V.mono (fun v h1 n1 q => ?_) (x_go_loop l d n N m (by omega) cl P pn h b ht0 N 0 K h hw hD hPR (Out.rf h 2) (by omega))
        obtain ⟨q1, q2, q3, q4, q5⟩ := q
        exact ⟨by rw [q1, goV, if_pos c7, if_pos hok, clampI (show N < 2147483648 by omega)], q2, by rw [goS, if_pos c7, if_pos hok, clampI (show N < 2147483648 by omega)]; exact hc.wood q3 q4 q5, fun y hy => q5 y (by omega)⟩
      · refine V.bipush (v := -3) dX5_go_32 (by decide) ?_
        exact V.iret (by exact dX5_go_34) rfl rfl ⟨by simp only [goV, goOk, c7, c19, c29, not_true_eq_false, not_false_eq_true, if_true, if_false, decide_true, decide_false, Bool.and_true, Bool.and_false, Bool.true_and, Bool.false_and, Bool.or_true, Bool.or_false, Bool.true_or, Bool.false_or, Bool.not_true, Bool.not_false, and_true, and_false, true_and, false_and, or_true, or_false, true_or, false_or, bIt, bIf, Bool.false_eq_true, reduceCtorEq], rfl, by simp only [goS, goOk, c7, c19, c29, not_true_eq_false, not_false_eq_true, if_true, if_false, decide_true, decide_false, Bool.and_true, Bool.and_false, Bool.true_and, Bool.false_and, Bool.or_true, Bool.or_false, Bool.true_or, Bool.false_or, Bool.not_true, Bool.not_false, and_true, and_false, true_and, false_and, or_true, or_false, true_or, false_or, bIt, bIf, Bool.false_eq_true, reduceCtorEq]; exact hc, fun _ _ => rfl⟩
  · refine V.iconst (v := -1) dX5_go_10 (by decide) ?_
    exact V.iret (by exact dX5_go_11) rfl rfl ⟨by simp only [goV, goOk, c7, not_true_eq_false, not_false_eq_true, if_true, if_false, decide_true, decide_false, Bool.and_true, Bool.and_false, Bool.true_and, Bool.false_and, Bool.or_true, Bool.or_false, Bool.true_or, Bool.false_or, Bool.not_true, Bool.not_false, and_true, and_false, true_and, false_and, or_true, or_false, true_or, false_or, bIt, bIf, Bool.false_eq_true, reduceCtorEq], rfl, by simp only [goS, goOk, c7, not_true_eq_false, not_false_eq_true, if_true, if_false, decide_true, decide_false, Bool.and_true, Bool.and_false, Bool.true_and, Bool.false_and, Bool.or_true, Bool.or_false, Bool.true_or, Bool.false_or, Bool.not_true, Bool.not_false, and_true, and_false, true_and, false_and, or_true, or_false, true_or, false_or, bIt, bIf, Bool.false_eq_true, reduceCtorEq]; exact hc, fun _ _ => rfl⟩
set_option maxRecDepth 20000 in
set_option maxHeartbeats 4000000 in
theorem m_go_loop (l : Launch) (d n N m : Nat) (hN : N ≤ 100) (h : MH) (b : Bool) (th po ba en tt : Int32) (hm0 : h 78 = some (.inr (6, moF b th po ba en tt))) : ∀ (r i : Nat) (K : KK), KD K m → i + r = N → V l mX6_go (d + 9) 39 [some (.ref 78), some (.int (nI N)), some (.int (nI i))] [] (hset h 79 (kc K)) n 0 0 (fun v h1 n1 => v = some (.int (pl m r K 91)) ∧ n1 = n ∧ h1 = hset h 79 (kc (pl m r K))) := by
  intro r
  induction r with
  | zero =>
    intro i K hD hi
    have hm0 := o_ne (x := kc K) hm0 (show 78 ≠ 79 by decide)
    have ha := hset_self h 79 (kc K)
    refine V.iload_n dX6_go_39 rfl ?_
    refine V.iload_n dX6_go_40 rfl ?_
    refine V.icmp_geN (tgt := 67) dX6_go_41 (by decide) (by omega) (by omega) (fun _ => ?_) (fun q => absurd q (by omega))
    refine V.aload_n dX6_go_67 rfl ?_
    refine V.getf dX6_go_68 fl_X6_9 hm0 rfl ?_
    refine V.bipush (v := nI 91) dX6_go_71 (by decide) ?_
    refine V.ialdN dX6_go_73 ha (by omega) (by decide) ?_
    exact V.iret (by exact dX6_go_74) rfl rfl ⟨rfl, rfl, rfl⟩
  | succ r ih =>
    intro i K hD hi
    have hm0 := o_ne (x := kc K) hm0 (show 78 ≠ 79 by decide)
    have ha := hset_self h 79 (kc K)
    refine V.iload_n dX6_go_39 rfl ?_
    refine V.iload_n dX6_go_40 rfl ?_
    refine V.icmp_geN (tgt := 67) dX6_go_41 (by decide) (by omega) (by omega) (fun q => absurd q (by omega)) (fun _ => ?_)
    refine V.aload_n dX6_go_44 rfl ?_
    refine V.getf dX6_go_45 fl_X6_9 hm0 rfl ?_
    refine V.callSv [_] dX6_go_48 lk_X6_251 rfl (Nat.le_of_ble_eq_true rfl) (Nat.le_of_ble_eq_true rfl) (s6_isEnded _ _ _ _ _ _ ha) ?_
    refine V.if_neB (tgt := 67) dX6_go_51 (by decide) (fun c51 => ?_) (fun c51 => ?_)
    · refine V.aload_n dX6_go_67 rfl ?_
      refine V.getf dX6_go_68 fl_X6_9 hm0 rfl ?_
      refine V.bipush (v := nI 91) dX6_go_71 (by decide) ?_
      refine V.ialdN dX6_go_73 ha (by omega) (by decide) ?_
      exact V.iret (by exact dX6_go_74) rfl rfl (by rw [pl, if_pos c51]; exact ⟨rfl, rfl, rfl⟩)
    · refine V.aload_n dX6_go_54 rfl ?_
      refine V.getf dX6_go_55 fl_X6_9 hm0 rfl ?_
      refine V.callSu [_] dX6_go_58 lk_X6_255 rfl (Nat.le_of_ble_eq_true rfl) (Nat.le_of_ble_eq_true rfl) (s6_second _ _ _ _ _ K ha m hD.1) ?_
      rw [hset_hset]
      refine V.inN2 dX6_go_61 (by decide) rfl ?_
      refine V.goto (tgt := 39) dX6_go_64 (by decide) ?_
      rw [pl, if_neg (by rw [c51]; decide)]
      exact ih (i + 1) (sec K m) (KD_sec hD) (by omega)
set_option maxRecDepth 20000 in
set_option maxHeartbeats 4000000 in
theorem m_go (l : Launch) (d : Nat) (h : MH) (n : Nat) (K : KK) (b : Bool) (KI : KK) (S : SS) (m : Nat) (hc : ModAt h K b KI S) (hT : TI K m) (x : Int32) : Sp l mX6_go (d + 9) [.ref 78, .int x] h n 0 0 (Qm (goV K m x) (goS K m x) b KI S h n) := by
  have hD := hT.1
  have hm := hD.1.1
  have hm10 := hD.1.2.1
  obtain ⟨⟨th, po, ba, en, tt, hm0⟩, ha, hb, ⟨Km, hmi⟩, ⟨Kr, hre⟩, h83, h84, h85, h86, h87, h88, ⟨X89, h89⟩, ⟨X90, h90⟩, ⟨X91, h91⟩, ⟨X92, h92⟩⟩ := id hc
  show V _ _ _ _ [some (.ref 78), some (.int x), none] _ _ _ _ _ _
  refine V.iload_n dX6_go_0 rfl ?_
  refine V.i2l dX6_go_1 ?_
  refine V.lconst (v := 1) dX6_go_2 (by decide) ?_
  refine V.ldc2 dX6_go_3 cn_X6_249 ?_
  refine V.callSv [_, _, _] dX6_go_6 lk_X6_62 rfl (Nat.le_of_ble_eq_true rfl) (Nat.le_of_ble_eq_true rfl) (s6_isInC _ _ _ (nI 1) (nI 100) (by decide) (by decide) _ _) ?_
  refine V.if_neB (tgt := 14) dX6_go_9 (by decide) (fun c9 => ?_) (fun c9 => ?_)
  · refine V.aload_n dX6_go_14 rfl ?_
    refine V.getf dX6_go_15 fl_X6_9 hm0 rfl ?_
    refine V.bipush (v := nI 90) dX6_go_18 (by decide) ?_
    refine V.ialdN dX6_go_20 ha (by omega) (by decide) ?_
    refine V.if_eq (tgt := 34) dX6_go_21 (by decide) (fun c21 => ?_) (fun c21 => ?_)
    · refine V.bipush (v := -3) dX6_go_34 (by decide) ?_
      exact V.iret (by exact dX6_go_36) rfl rfl ⟨by simp only [goV, goOk, c9, eq_true c21, not_true_eq_false, not_false_eq_true, if_true, if_false, decide_true, decide_false, Bool.and_true, Bool.and_false, Bool.true_and, Bool.false_and, Bool.or_true, Bool.or_false, Bool.true_or, Bool.false_or, Bool.not_true, Bool.not_false, and_true, and_false, true_and, false_and, or_true, or_false, true_or, false_or, bIt, bIf, Bool.false_eq_true, reduceCtorEq], rfl, by simp only [goS, goOk, c9, eq_true c21, not_true_eq_false, not_false_eq_true, if_true, if_false, decide_true, decide_false, Bool.and_true, Bool.and_false, Bool.true_and, Bool.false_and, Bool.or_true, Bool.or_false, Bool.true_or, Bool.false_or, Bool.not_true, Bool.not_false, and_true, and_false, true_and, false_and, or_true, or_false, true_or, false_or, bIt, bIf, Bool.false_eq_true, reduceCtorEq]; exact hc, fun _ _ => rfl⟩
    · refine V.aload_n dX6_go_24 rfl ?_
      refine V.getf dX6_go_25 fl_X6_9 hm0 rfl ?_
      refine V.callSv [_] dX6_go_28 lk_X6_251 rfl (Nat.le_of_ble_eq_true rfl) (Nat.le_of_ble_eq_true rfl) (s6_isEnded _ _ _ _ _ _ ha) ?_
      refine V.if_eqB (tgt := 37) dX6_go_31 (by decide) (fun c31 => ?_) (fun c31 => ?_)
      · obtain ⟨N, hN1, hN, rfl⟩ := wi1_ex (by decide) c9
        have hok : goOk K (nI N) = true := by simp only [goOk, c9, c21, c31, not_true_eq_false, not_false_eq_true, if_true, if_false, decide_true, decide_false, Bool.and_true, Bool.and_false, Bool.true_and, Bool.false_and, Bool.or_true, Bool.or_false, Bool.true_or, Bool.false_or, Bool.not_true, Bool.not_false, and_true, and_false, true_and, false_and, or_true, or_false, true_or, false_or, bIt, bIf, Bool.false_eq_true, reduceCtorEq]
        refine V.iconst (v := nI 0) dX6_go_37 (by decide) ?_
        refine V.ist2 dX6_go_38 (by decide) rfl ?_
        refine V.hp (hset_id ha).symm (V.mono (fun v h1 n1 q => ?_) (m_go_loop l d n N m (by omega) h b th po ba en tt hm0 N 0 K hD (by omega)))
        obtain ⟨q1, q2, q3⟩ := q
        exact ⟨by rw [q1, goV, if_pos c9, if_pos hok, clampI (show N < 2147483648 by omega)], q2, by rw [goS, if_pos c9, if_pos hok, clampI (show N < 2147483648 by omega), q3]; exact hc.s _, fun y hy => by rw [q3]; exact hset_ne _ _ (by omega)⟩
      · refine V.bipush (v := -3) dX6_go_34 (by decide) ?_
        exact V.iret (by exact dX6_go_36) rfl rfl ⟨by simp only [goV, goOk, c9, c21, c31, not_true_eq_false, not_false_eq_true, if_true, if_false, decide_true, decide_false, Bool.and_true, Bool.and_false, Bool.true_and, Bool.false_and, Bool.or_true, Bool.or_false, Bool.true_or, Bool.false_or, Bool.not_true, Bool.not_false, and_true, and_false, true_and, false_and, or_true, or_false, true_or, false_or, bIt, bIf, Bool.false_eq_true, reduceCtorEq], rfl, by simp only [goS, goOk, c9, c21, c31, not_true_eq_false, not_false_eq_true, if_true, if_false, decide_true, decide_false, Bool.and_true, Bool.and_false, Bool.true_and, Bool.false_and, Bool.or_true, Bool.or_false, Bool.true_or, Bool.false_or, Bool.not_true, Bool.not_false, and_true, and_false, true_and, false_and, or_true, or_false, true_or, false_or, bIt, bIf, Bool.false_eq_true, reduceCtorEq]; exact hc, fun _ _ => rfl⟩
  · refine V.iconst (v := -1) dX6_go_12 (by decide) ?_
    exact V.iret (by exact dX6_go_13) rfl rfl ⟨by simp only [goV, goOk, c9, not_true_eq_false, not_false_eq_true, if_true, if_false, decide_true, decide_false, Bool.and_true, Bool.and_false, Bool.true_and, Bool.false_and, Bool.or_true, Bool.or_false, Bool.true_or, Bool.false_or, Bool.not_true, Bool.not_false, and_true, and_false, true_and, false_and, or_true, or_false, true_or, false_or, bIt, bIf, Bool.false_eq_true, reduceCtorEq], rfl, by simp only [goS, goOk, c9, not_true_eq_false, not_false_eq_true, if_true, if_false, decide_true, decide_false, Bool.and_true, Bool.and_false, Bool.true_and, Bool.false_and, Bool.or_true, Bool.or_false, Bool.true_or, Bool.false_or, Bool.not_true, Bool.not_false, and_true, and_false, true_and, false_and, or_true, or_false, true_or, false_or, bIt, bIf, Bool.false_eq_true, reduceCtorEq]; exact hc, fun _ _ => rfl⟩
