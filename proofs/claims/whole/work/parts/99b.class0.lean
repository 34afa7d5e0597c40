/-- where a shelf has been made -/
def In3 (h : MH) (a n : Nat) : Option Value → MH → Nat → Prop := fun r h1 n1 => r = none ∧ n1 = n + 1 ∧ h1 a = some (.inr (3, shF (nI 0) (nI 0) (nI 0) (nI 0) (nI 0) n)) ∧ h1 n = some (ia 100 (fun _ => 0)) ∧ ∀ p, p ≠ a → p ≠ n → h1 p = h p
set_option maxRecDepth 20000 in
set_option maxHeartbeats 4000000 in
theorem s3_init (l : Launch) (d : Nat) (h : MH) (a n : Nat) (hn : n + 1 < 1000000) (han : a ≠ n) (ha : h a = some (.inr (3, [.int 0, .int 0, .int 0, .int 0, .int 0, .null]))) : Sp l mX3_init (d + 1) [.ref a] h n 1 100 (In3 h a n) := by
  show V _ _ _ _ [some (.ref a)] _ _ _ _ _ _
  refine V.aload_n dX3_init_0 rfl ?_
  refine V.objInit dX3_init_1 wo_X3_3 oi_1 oi_2 (by omega) (Nat.le_of_ble_eq_true rfl) ?_
  refine V.aload_n dX3_init_4 rfl ?_
  refine V.iconst (v := nI 0) dX3_init_5 (by decide) ?_
  refine V.putf dX3_init_6 fp_X3_9 ha (Nat.le_of_ble_eq_true rfl) (fun _ => ⟨rfl, rfl⟩) ?_
  refine V.aload_n dX3_init_9 rfl ?_
  refine V.bipush (v := nI 100) dX3_init_10 (by decide) ?_
  refine V.newI (c := 0) (z := 0) (N := 100) dX3_init_12 w_ac_int (nI_pos (by omega)) (nI_clamp (by omega)) (by omega) hn ?_
  refine V.putF dX3_init_14 rfl ff_X3_15 (o_ne (hset_self _ _ _) han) (Nat.le_of_ble_eq_true rfl) (fun _ => ⟨rfl, rfl⟩) ?_
  refine V.vret (by exact dX3_init_17) rfl ⟨rfl, rfl, hset_self _ _ _, o_ne (hset_self _ _ _) (fun e => han e.symm), fun p h1 h2 => ?_⟩
  rw [hset_ne _ _ h1, hset_ne _ _ h2, hset_ne _ _ h1]
set_option maxRecDepth 20000 in
set_option maxHeartbeats 4000000 in
theorem s1_init (l : Launch) (d : Nat) (h : MH) (a n : Nat) (hn : n + 2 < 1000000) (han : a < n) (ha : h a = some (.inr (1, [.null, .int 0, .int 0]))) : Sp l mX1_init (d + 2) [.ref a] h n 2 106 (fun r h1 n1 => r = none ∧ n1 = n + 2 ∧ h1 a = some (.inr (1, [.ref n, .int 0, .int 0])) ∧ ∀ p, p ≠ a → p < n → h1 p = h p) := by
  show V _ _ _ _ [some (.ref a)] _ _ _ _ _ _
  refine V.aload_n dX1_init_0 rfl ?_
  refine V.objInit dX1_init_1 wo_X1_3 oi_1 oi_2 (by omega) (Nat.le_of_ble_eq_true rfl) ?_
  refine V.aload_n dX1_init_4 rfl ?_
  refine V.new (c := 1) (z := 100) (N := 6) dX1_init_5 nc_X1_9 (by omega) ?_
  refine V.dup dX1_init_8 rfl ?_
  refine V.callI (c := 0) (z := 0) [] dX1_init_9 lk_X1_11 rfl (Nat.le_of_ble_eq_true rfl) (Nat.le_of_ble_eq_true rfl) (s3_init _ _ _ n (n + 1) (by omega) (by omega) (hset_self _ _ _)) (fun r h1 n1 q => ?_)
  obtain ⟨rfl, rfl, q1, q2, q3⟩ := q
  refine V.putf dX1_init_12 fp_X1_12 ((q3 a (by omega) (by omega)).trans (o_ne ha (by omega))) (Nat.le_of_ble_eq_true rfl) (fun _ => ⟨rfl, rfl⟩) ?_
  refine V.vret (by exact dX1_init_15) rfl ⟨rfl, rfl, hset_self _ _ _, fun p h1 h2 => ?_⟩
  rw [hset_ne _ _ h1, q3 p (by omega) (by omega), hset_ne _ _ (by omega)]
set_option maxRecDepth 20000 in
set_option maxHeartbeats 4000000 in
theorem s2_init (l : Launch) (d : Nat) (h : MH) (a n : Nat) (hn : n + 2 < 1000000) (han : a < n) (ha : h a = some (.inr (2, [.null, .null]))) : Sp l mX2_init (d + 1) [.ref a] h n 2 168 (fun r h1 n1 => r = none ∧ n1 = n + 2 ∧ h1 a = some (.inr (2, [.ref n, .ref (n + 1)])) ∧ h1 n = some (ia 84 (fun _ => 0)) ∧ h1 (n + 1) = some (.inl (1, 84, .inl (fun _ => 0))) ∧ ∀ p, p ≠ a → p < n → h1 p = h p) := by
  show V _ _ _ _ [some (.ref a)] _ _ _ _ _ _
  refine V.aload_n dX2_init_0 rfl ?_
  refine V.objInit dX2_init_1 wo_X2_3 oi_1 oi_2 (by omega) (Nat.le_of_ble_eq_true rfl) ?_
  refine V.aload_n dX2_init_4 rfl ?_
  refine V.bipush (v := nI 84) dX2_init_5 (by decide) ?_
  refine V.newI (c := 1) (z := 84) (N := 84) dX2_init_7 w_ac_int (nI_pos (by omega)) (nI_clamp (by omega)) (by omega) (by omega) ?_
  refine V.putF dX2_init_9 rfl ff_X2_9 (o_ne ha (by omega)) (Nat.le_of_ble_eq_true rfl) (fun _ => ⟨rfl, rfl⟩) ?_
  refine V.aload_n dX2_init_12 rfl ?_
  refine V.bipush (v := nI 84) dX2_init_13 (by decide) ?_
  refine V.newZ (c := 0) (z := 0) (N := 84) dX2_init_15 w_ac_boolean (nI_pos (by omega)) (nI_clamp (by omega)) (by omega) (by omega) ?_
  refine V.putF dX2_init_17 rfl ff_X2_15 (o_ne (hset_self _ _ _) (by omega)) (Nat.le_of_ble_eq_true rfl) (fun _ => ⟨rfl, rfl⟩) ?_
  refine V.vret (by exact dX2_init_20) rfl ⟨rfl, rfl, hset_self _ _ _, o_ne (o_ne (o_ne (hset_self _ _ _) (by omega)) (by omega)) (by omega), o_ne (hset_self _ _ _) (by omega), fun p h1 h2 => ?_⟩
  rw [hset_ne _ _ h1, hset_ne _ _ (by omega), hset_ne _ _ h1, hset_ne _ _ (by omega)]
def S00 : SS := fun _ _ => nI 0
/-- the shelves made so far -/
def SHi (h0 : MH) (i : Nat) (h : MH) : Prop := ∃ q : Nat → Option Nat, h 0 = some (.inr (5, tfF false)) ∧ h 1 = some (.inl (4, 8, .inr (.inr (.inr (.inr q))))) ∧ (∀ j, j < i → q j = some (62 + 2 * j)) ∧ (∀ j, j < i → ShelfAt h S00 j) ∧ ∀ p, 2 ≤ p → p < 62 → h p = h0 p
set_option maxRecDepth 20000 in
set_option maxHeartbeats 4000000 in
theorem s5_init_loop (l : Launch) (d : Nat) (h0 : MH) {Q : Option Value → MH → Nat → Prop} (kk : ∀ h1, SHi h0 8 h1 → V l mX5_init (d + 3) 95 [some (.ref 0), some (.int (nI 8))] [] h1 78 0 0 Q) :
    ∀ (r i : Nat) (h : MH), i + r = 8 → SHi h0 i h → V l mX5_init (d + 3) 70 [some (.ref 0), some (.int (nI i))] [] h (62 + 2 * i) (2 * r) (106 * r) Q := by
  intro r
  induction r with
  | zero =>
    intro i h hi hp
    have e : i = 8 := by omega
    subst e
    refine V.iload_n dX5_init_70 rfl ?_
    refine V.bipush (v := nI 8) dX5_init_71 (by decide) ?_
    refine V.icmp_geN (tgt := 95) dX5_init_73 (by decide) (by omega) (by omega) (fun _ => ?_) (fun q => absurd q (by omega))
    exact kk h hp
  | succ r ih =>
    intro i h hi hp
    obtain ⟨q, a1, a2, a3, a4, a5⟩ := hp
    show V _ _ _ _ _ _ _ _ (2 * r + 1 + 1) (106 * r + 100 + 6) _
    refine V.iload_n dX5_init_70 rfl ?_
    refine V.bipush (v := nI 8) dX5_init_71 (by decide) ?_
    refine V.icmp_geN (tgt := 95) dX5_init_73 (by decide) (by omega) (by omega) (fun q => absurd q (by omega)) (fun _ => ?_)
    refine V.aload_n dX5_init_76 rfl ?_
    refine V.getf dX5_init_77 fl_X5_11 a1 rfl ?_
    refine V.iload_n dX5_init_80 rfl ?_
    refine V.new dX5_init_81 nc_X5_9 (by omega) ?_
    refine V.dup dX5_init_84 rfl ?_
    refine V.callI (c := 2 * r) (z := 106 * r) [] dX5_init_85 lk_X5_42 rfl (Nat.le_of_ble_eq_true rfl) (Nat.le_of_ble_eq_true rfl) (s3_init _ _ _ (62 + 2 * i) (62 + 2 * i + 1) (by omega) (by omega) (hset_self _ _ _)) (fun r1 h1 n1 qq => ?_)
    obtain ⟨rfl, rfl, q1, q2, q3⟩ := qq
    have hlo : ∀ p, p < 62 + 2 * i → h1 p = h p := fun p hp => by rw [q3 p (by omega) (by omega), hset_ne _ _ (by omega)]
    refine V.aast dX5_init_88 (Or.inr ⟨rfl, rfl⟩) ((hlo 1 (by omega)).trans a2) q1 (vp_in_nI (by omega) (by decide)) ?_
    refine V.inN1 dX5_init_89 (by decide) rfl ?_
    refine V.goto (tgt := 70) dX5_init_92 (by decide) ?_
    refine ih (i + 1) _ (by omega) ⟨_, o_ne ((hlo 0 (by omega)).trans a1) (by omega), hset_self _ _ _, fun j hj => ?_, fun j hj => ?_, fun p h1 h2 => ?_⟩
    · rw [nI_clamp (by omega)]
      by_cases e : j = i
      · subst e
        simp [va_up]
      · simp only [va_up, if_neg e]
        exact a3 j (by omega)
    · by_cases e : j = i
      · subst e
        rw [show 62 + 2 * j + 1 = 63 + 2 * j by omega] at q1
        refine ⟨nI 0, nI 0, nI 0, nI 0, fun _ => 0, o_ne q1 (by omega), o_ne ((show h1 (63 + 2 * j) = _ from (by rw [show 63 + 2 * j = 62 + 2 * j + 1 by omega]; exact q2))) (by omega), fun e => absurd (show nI 0 = nI 1 from e) (by decide), fun e => absurd (show nI 0 = nI 2 from e) (by decide)⟩
      · exact (a4 j (by omega)).far (by rw [hset_ne _ _ (by omega), hlo _ (by omega)]) (by rw [hset_ne _ _ (by omega), hlo _ (by omega)])
    · rw [hset_ne _ _ (by omega), hlo p (by omega)]
      exact a5 p h1 h2
def KI0 : KK := fun _ => 0
/-- where TwoFlags has been made -/
def Bx : Option Value → MH → Nat → Prop := fun r h1 n1 => r = none ∧ n1 = 78 ∧ ClsAt h1 KS false KI0 S00
set_option maxRecDepth 20000 in
set_option maxHeartbeats 4000000 in
theorem s5_init (l : Launch) (d : Nat) (h : MH) (h00 : h 0 = some (.inr (5, [.null, .null, .null, .null, .int 0, .null, .null]))) : Sp l mX5_init (d + 3) [.ref 0] h 1 77 1807 Bx := by
  show V _ _ _ _ [some (.ref 0), none] _ _ _ _ _ _
  refine V.aload_n dX5_init_0 rfl ?_
  refine V.objInit dX5_init_1 wo_X5_1 oi_1 oi_2 (by omega) (Nat.le_of_ble_eq_true rfl) ?_
  refine V.aload_n dX5_init_4 rfl ?_
  refine V.bipush (v := nI 8) dX5_init_5 (by decide) ?_
  refine V.newQ (c := 76) (z := 1799) (N := 8) (t := 4) dX5_init_7 cl_X5_9 (Or.inr ⟨rfl, rfl⟩) (nI_pos (by omega)) (nI_clamp (by omega)) (by omega) (by omega) ?_
  change V _ _ _ _ _ _ _ 2 _ _ _
  refine V.putF dX5_init_10 rfl ff_X5_11 (o_ne h00 (by omega)) (Nat.le_of_ble_eq_true rfl) (fun _ => ⟨rfl, rfl⟩) ?_
  change V _ _ _ _ _ _ (hset _ 0 (.inr (5, [.ref 1, .null, .null, .null, .int 0, .null, .null]))) _ _ _ _
  obtain ⟨g0, eg0⟩ : ∃ g0 : MH, g0 = hset (hset h 1 (.inl (4, 8, .inr (.inr (.inr (.inr (fun _ => none)))))) ) 0 (.inr (5, [.ref 1, .null, .null, .null, .int 0, .null, .null]))  := ⟨_, rfl⟩
  change V _ _ _ _ _ _ (hset (hset h 1 (.inl (4, 8, .inr (.inr (.inr (.inr (fun _ => none))))))) 0 (.inr (5, [.ref 1, .null, .null, .null, .int 0, .null, .null]))) _ _ _ _
  rw [← eg0]
  have b00 : g0 0 = some (.inr (5, [.ref 1, .null, .null, .null, .int 0, .null, .null])) := by rw [eg0]; exact hset_self _ _ _
  have b01 : g0 1 = some (.inl (4, 8, .inr (.inr (.inr (.inr (fun _ => none)))))) := by rw [eg0]; exact o_ne (hset_self _ _ _) (by omega)
  refine V.aload_n dX5_init_13 rfl ?_
  refine V.new (c := 75) (z := 1785) (N := 14) dX5_init_14 nc_X5_15 (by omega) ?_
  change V _ _ _ _ _ _ _ 3 _ _ _
  refine V.dup dX5_init_17 rfl ?_
  refine V.callI (c := 58) (z := 1575) [] dX5_init_18 lk_X5_17 rfl (Nat.le_of_ble_eq_true rfl) (Nat.le_of_ble_eq_true rfl) (s4_init _ _ _ 2 (by omega) (hset_self _ _ _)) (fun r1 k1 n1 qq => ?_)
  obtain ⟨rfl, rfl, hw1, hk1⟩ := qq
  have lo1 : ∀ p, p < 2 → k1 p = g0 p := fun p hp => by rw [hk1 p hp, hset_ne _ _ (by omega)]
  refine V.putF dX5_init_21 rfl ff_X5_18 ((lo1 0 (by omega)).trans b00) (Nat.le_of_ble_eq_true rfl) (fun _ => ⟨rfl, rfl⟩) ?_
  change V _ _ _ _ _ _ (hset k1 0 (.inr (5, [.ref 1, .ref 2, .null, .null, .int 0, .null, .null]))) 20 _ _ _
  obtain ⟨g1, eg1⟩ : ∃ g : MH, g = hset k1 0 (.inr (5, [.ref 1, .ref 2, .null, .null, .int 0, .null, .null])) := ⟨_, rfl⟩
  rw [← eg1]
  have b10 : g1 0 = some (.inr (5, [.ref 1, .ref 2, .null, .null, .int 0, .null, .null])) := by rw [eg1]; exact hset_self _ _ _
  have up1 : ∀ p, p ≠ 0 → g1 p = k1 p := fun p hp => by rw [eg1]; exact hset_ne _ _ hp
  refine V.aload_n dX5_init_24 rfl ?_
  refine V.new (c := 57) (z := 1561) (N := 14) dX5_init_25 nc_X5_15 (by omega) ?_
  change V _ _ _ _ _ _ _ 21 _ _ _
  refine V.dup dX5_init_28 rfl ?_
  refine V.callI (c := 40) (z := 1351) [] dX5_init_29 lk_X5_17 rfl (Nat.le_of_ble_eq_true rfl) (Nat.le_of_ble_eq_true rfl) (s4_init _ _ _ 20 (by omega) (hset_self _ _ _)) (fun r1 k2 n1 qq => ?_)
  obtain ⟨rfl, rfl, hw2, hk2⟩ := qq
  have lo2 : ∀ p, p < 20 → k2 p = g1 p := fun p hp => by rw [hk2 p hp, hset_ne _ _ (by omega)]
  refine V.putF dX5_init_32 rfl ff_X5_22 ((lo2 0 (by omega)).trans b10) (Nat.le_of_ble_eq_true rfl) (fun _ => ⟨rfl, rfl⟩) ?_
  change V _ _ _ _ _ _ (hset k2 0 (.inr (5, [.ref 1, .ref 2, .ref 20, .null, .int 0, .null, .null]))) 38 _ _ _
  obtain ⟨g2, eg2⟩ : ∃ g : MH, g = hset k2 0 (.inr (5, [.ref 1, .ref 2, .ref 20, .null, .int 0, .null, .null])) := ⟨_, rfl⟩
  rw [← eg2]
  have b20 : g2 0 = some (.inr (5, [.ref 1, .ref 2, .ref 20, .null, .int 0, .null, .null])) := by rw [eg2]; exact hset_self _ _ _
  have up2 : ∀ p, p ≠ 0 → g2 p = k2 p := fun p hp => by rw [eg2]; exact hset_ne _ _ hp
  refine V.aload_n dX5_init_35 rfl ?_
  refine V.new (c := 39) (z := 1337) (N := 14) dX5_init_36 nc_X5_15 (by omega) ?_
  change V _ _ _ _ _ _ _ 39 _ _ _
  refine V.dup dX5_init_39 rfl ?_
  refine V.callI (c := 22) (z := 1127) [] dX5_init_40 lk_X5_17 rfl (Nat.le_of_ble_eq_true rfl) (Nat.le_of_ble_eq_true rfl) (s4_init _ _ _ 38 (by omega) (hset_self _ _ _)) (fun r1 k3 n1 qq => ?_)
  obtain ⟨rfl, rfl, hw3, hk3⟩ := qq
  have lo3 : ∀ p, p < 38 → k3 p = g2 p := fun p hp => by rw [hk3 p hp, hset_ne _ _ (by omega)]
  refine V.putF dX5_init_43 rfl ff_X5_25 ((lo3 0 (by omega)).trans b20) (Nat.le_of_ble_eq_true rfl) (fun _ => ⟨rfl, rfl⟩) ?_
  change V _ _ _ _ _ _ (hset k3 0 (.inr (5, [.ref 1, .ref 2, .ref 20, .ref 38, .int 0, .null, .null]))) 56 _ _ _
  obtain ⟨g3, eg3⟩ : ∃ g : MH, g = hset k3 0 (.inr (5, [.ref 1, .ref 2, .ref 20, .ref 38, .int 0, .null, .null])) := ⟨_, rfl⟩
  rw [← eg3]
  have b30 : g3 0 = some (.inr (5, [.ref 1, .ref 2, .ref 20, .ref 38, .int 0, .null, .null])) := by rw [eg3]; exact hset_self _ _ _
  have up3 : ∀ p, p ≠ 0 → g3 p = k3 p := fun p hp => by rw [eg3]; exact hset_ne _ _ hp
  refine V.aload_n dX5_init_46 rfl ?_
  refine V.new (c := 21) (z := 1124) (N := 3) dX5_init_47 nc_X5_28 (by omega) ?_
  change V _ _ _ _ _ _ _ 57 _ _ _
  refine V.dup dX5_init_50 rfl ?_
  refine V.callI (c := 19) (z := 1018) [] dX5_init_51 lk_X5_30 rfl (Nat.le_of_ble_eq_true rfl) (Nat.le_of_ble_eq_true rfl) (s1_init _ _ _ 56 57 (by omega) (by omega) (hset_self _ _ _)) (fun r1 k4 n1 qq => ?_)
  obtain ⟨rfl, rfl, hr4, hk4⟩ := qq
  have lo4 : ∀ p, p < 56 → k4 p = g3 p := fun p hp => by rw [hk4 p (by omega) (by omega), hset_ne _ _ (by omega)]
  refine V.putF dX5_init_54 rfl ff_X5_31 ((lo4 0 (by omega)).trans b30) (Nat.le_of_ble_eq_true rfl) (fun _ => ⟨rfl, rfl⟩) ?_
  change V _ _ _ _ _ _ (hset k4 0 (.inr (5, [.ref 1, .ref 2, .ref 20, .ref 38, .int 0, .ref 56, .null]))) 59 _ _ _
  obtain ⟨g4, eg4⟩ : ∃ g : MH, g = hset k4 0 (.inr (5, [.ref 1, .ref 2, .ref 20, .ref 38, .int 0, .ref 56, .null])) := ⟨_, rfl⟩
  rw [← eg4]
  have b40 : g4 0 = some (.inr (5, [.ref 1, .ref 2, .ref 20, .ref 38, .int 0, .ref 56, .null])) := by rw [eg4]; exact hset_self _ _ _
  have up4 : ∀ p, p ≠ 0 → g4 p = k4 p := fun p hp => by rw [eg4]; exact hset_ne _ _ hp
  refine V.aload_n dX5_init_57 rfl ?_
  refine V.new (c := 18) (z := 1016) (N := 2) dX5_init_58 nc_X5_35 (by omega) ?_
  change V _ _ _ _ _ _ _ 60 _ _ _
  refine V.dup dX5_init_61 rfl ?_
  refine V.callI (c := 16) (z := 848) [] dX5_init_62 lk_X5_37 rfl (Nat.le_of_ble_eq_true rfl) (Nat.le_of_ble_eq_true rfl) (s2_init _ _ _ 59 60 (by omega) (by omega) (hset_self _ _ _)) (fun r1 k5 n1 qq => ?_)
  obtain ⟨rfl, rfl, hs5, hs6, hs7, hk5⟩ := qq
  have lo5 : ∀ p, p < 59 → k5 p = g4 p := fun p hp => by rw [hk5 p (by omega) (by omega), hset_ne _ _ (by omega)]
  refine V.putF dX5_init_65 rfl ff_X5_38 ((lo5 0 (by omega)).trans b40) (Nat.le_of_ble_eq_true rfl) (fun _ => ⟨rfl, rfl⟩) ?_
  change V _ _ _ _ _ _ (hset k5 0 (.inr (5, tfF false))) 62 _ _ _
  obtain ⟨g5, eg5⟩ : ∃ g : MH, g = hset k5 0 (.inr (5, tfF false)) := ⟨_, rfl⟩
  rw [← eg5]
  have b50 : g5 0 = some (.inr (5, tfF false)) := by rw [eg5]; exact hset_self _ _ _
  have up5 : ∀ p, p ≠ 0 → g5 p = k5 p := fun p hp => by rw [eg5]; exact hset_ne _ _ hp
  have c5 : ∀ p, p ≠ 0 → p < 59 → g5 p = k4 p := fun p h1 h2 => by rw [up5 p h1, lo5 p h2, up4 p h1]
  have c4 : ∀ p, p ≠ 0 → p < 56 → g5 p = k3 p := fun p h1 h2 => by rw [c5 p h1 (by omega), lo4 p h2, up3 p h1]
  have c3 : ∀ p, p ≠ 0 → p < 38 → g5 p = k2 p := fun p h1 h2 => by rw [c4 p h1 (by omega), lo3 p h2, up2 p h1]
  have c2 : ∀ p, p ≠ 0 → p < 20 → g5 p = k1 p := fun p h1 h2 => by rw [c3 p h1 (by omega), lo2 p h2, up1 p h1]
  have c1 : g5 1 = g0 1 := by rw [c2 1 (by omega) (by omega), lo1 1 (by omega)]
  refine V.iconst (v := nI 0) dX5_init_68 (by decide) ?_
  refine V.ist1 dX5_init_69 (by decide) rfl ?_
  refine s5_init_loop l d g5 (fun h1 hp => ?_) 8 0 _ rfl ⟨_, b50, c1.trans b01, fun j hj => by omega, fun j hj => by omega, fun p _ _ => rfl⟩
  obtain ⟨q, a1, a2, a3, a4, a5⟩ := hp
  obtain ⟨cl1, P1, w1, r1⟩ := hw1
  obtain ⟨cl2, P2, w2, r2⟩ := hw2
  obtain ⟨cl3, P3, w3, r3⟩ := hw3
  refine V.vret (by exact dX5_init_95) rfl ⟨rfl, rfl, a1, ⟨q, a2, a3⟩, ⟨cl1, P1, 0, w1.far (fun p h1 h2 => by rw [a5 p (by omega) (by omega), c2 p (by omega) (by omega)]), r1⟩, ⟨KS, cl2, P2, 0, w2.far (fun p h1 h2 => by rw [a5 p (by omega) (by omega), c3 p (by omega) (by omega)])⟩, ⟨KS, cl3, P3, 0, w3.far (fun p h1 h2 => by rw [a5 p (by omega) (by omega), c4 p (by omega) (by omega)]), fun e => by cases e⟩, ⟨57, 0, 0, ?_⟩, ?_, ⟨fun _ => 0, ?_⟩, ⟨fun _ => 0, ?_⟩, a4⟩
  · rw [a5 56 (by omega) (by omega), c5 56 (by omega) (by omega)]
    exact hr4
  · rw [a5 59 (by omega) (by omega), up5 59 (by omega)]
    exact hs5
  · rw [a5 60 (by omega) (by omega), up5 60 (by omega)]
    exact hs6
  · rw [a5 61 (by omega) (by omega), up5 61 (by omega)]
    exact hs7
