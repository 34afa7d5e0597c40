/-- whether a row holds kinds alone -/
def hkB (el : Nat → Int32) : Nat → Bool
  | 0 => true
  | k + 1 => hkB el k && wi (el k) (nI 0) (nI 7)
theorem hk_dn {el : Nat → Int32} : ∀ {m k : Nat}, k ≤ m → hkB el m = true → hkB el k = true := by
  intro m
  induction m with
  | zero => intro k hk h; rw [show k = 0 by omega]; rfl
  | succ m ih =>
    intro k hk h
    by_cases q : k = m + 1
    · rw [q]; exact h
    · rw [hkB, Bool.and_eq_true] at h
      exact ih (by omega) h.1
theorem hk_at {el : Nat → Int32} {m k : Nat} (hk : k < m) (h : hkB el m = true) : ∃ j : Nat, j < 8 ∧ el k = nI j := by
  have h1 := hk_dn (show k + 1 ≤ m by omega) h
  rw [hkB, Bool.and_eq_true] at h1
  obtain ⟨j, hj, e⟩ := wi_ex (by decide) h1.2
  exact ⟨j, by omega, e⟩
theorem hk_no {el : Nat → Int32} {m k : Nat} (hk : k < m) (h : wi (el k) (nI 0) (nI 7) = false) : hkB el m = false := by
  cases q : hkB el m with
  | false => rfl
  | true =>
    have h1 := hk_dn (show k + 1 ≤ m by omega) q
    rw [hkB, h] at h1
    simp at h1
theorem hk_congr {el e2 : Nat → Int32} : ∀ {m : Nat}, (∀ k, k < m → el k = e2 k) → hkB el m = hkB e2 m := by
  intro m
  induction m with
  | zero => intro _; rfl
  | succ m ih => intro h; rw [hkB, hkB, ih (fun k hk => h k (by omega)), h m (by omega)]
/-- kinds given to a side's players -/
def gkL (s : Int32) (el : Nat → Int32) (sz : Nat) (fg : Int32) : Nat → Nat → Nat → KK → KK
  | 0, _, _, K => K
  | r + 1, i, a, K => if a < sz then (if gP K i 0 = s then gkL s el sz fg r (i + 1) (a + 1) (roleU K i (el a) fg) else gkL s el sz fg r (i + 1) a K) else K
theorem gk_bgn (s : Int32) (el : Nat → Int32) (sz : Nat) (fg : Int32) (m : Nat) (z : Int32) : ∀ (r i a : Nat) (K : KK), bgn (gkL s el sz fg r i a K) m z = gkL s el sz fg r i a (bgn K m z) := by
  intro r
  induction r with
  | zero => intro i a K; rfl
  | succ r ih =>
    intro i a K
    rw [gkL, gkL, bgn_s _ _ _ _ _ (by omega)]
    split
    · split
      · rw [ih, bgn_role]
      · rw [ih]
    · rfl
theorem gk_lo (s : Int32) (el : Nat → Int32) (sz : Nat) (fg : Int32) (j : Nat) (hj : j < 114) : ∀ (r i a : Nat) (K : KK), gkL s el sz fg r i a K j = K j := by
  intro r
  induction r with
  | zero => intro i a K; rfl
  | succ r ih =>
    intro i a K
    rw [gkL]
    split
    · split
      · rw [ih, roleU_lo _ _ _ _ _ hj]
      · rw [ih]
    · rfl
theorem KD_gk {s : Int32} {el : Nat → Int32} {sz : Nat} {fg : Int32} {m : Nat} (h : hkB el sz = true) : ∀ (r i a : Nat) (K : KK), KD K m → KD (gkL s el sz fg r i a K) m := by
  intro r
  induction r with
  | zero => intro i a K hD; exact hD
  | succ r ih =>
    intro i a K hD
    rw [gkL]
    split
    · rename_i ha
      split
      · obtain ⟨j, hj, e⟩ := hk_at ha h
        rw [e]
        exact ih _ _ _ (KD_role hD j fg hj)
      · exact ih _ _ _ hD
    · exact hD
theorem gk_congr {s : Int32} {el e2 : Nat → Int32} {sz : Nat} {fg : Int32} (h : ∀ k, k < sz → el k = e2 k) : ∀ (r i a : Nat) (K : KK), gkL s el sz fg r i a K = gkL s e2 sz fg r i a K := by
  intro r
  induction r with
  | zero => intro i a K; rfl
  | succ r ih =>
    intro i a K
    rw [gkL, gkL]
    split
    · rename_i ha
      rw [h a ha, ih, ih]
    · rfl
def gk2 (K : KK) (m : Nat) (e1 : Nat → Int32) (s1 : Nat) (e2 : Nat → Int32) (s2 : Nat) (fg : Int32) : KK := gkL (nI 1) e2 s2 fg m 0 0 (gkL (nI 0) e1 s1 fg m 0 0 K)
/-- which refusal of table: 0 none -/
def tabR (K : KK) (S : SS) (x y fg : Int32) : Int32 :=
  if (wi x (nI 0) (nI 7) && (wi y (nI 0) (nI 7) && wi fg (nI 0) (nI 9))) = true then
    (if S 0 x.toNatClampNeg = nI 0 ∨ S 0 y.toNatClampNeg = nI 0 then -11 else if ((decide (S 0 x.toNatClampNeg = nI 2) && decide (S 1 x.toNatClampNeg = nI 0)) && (decide (S 0 y.toNatClampNeg = nI 2) && decide (S 1 y.toNatClampNeg = nI 0))) = true then
      (if (hkB (fun k => S 3 (100 * x.toNatClampNeg + k)) (S 2 x.toNatClampNeg).toNatClampNeg && hkB (fun k => S 3 (100 * y.toNatClampNeg + k)) (S 2 y.toNatClampNeg).toNatClampNeg) = true then (if K 90 = nI 0 then -3 else nI 0) else -13) else -12) else -1
def tableV (K : KK) (m : Nat) (S : SS) (x y fg z : Int32) : Int32 := if tabR K S x y fg = nI 0 then fin (gk2 K m (fun k => S 3 (100 * x.toNatClampNeg + k)) (S 2 x.toNatClampNeg).toNatClampNeg (fun k => S 3 (100 * y.toNatClampNeg + k)) (S 2 y.toNatClampNeg).toNatClampNeg fg) m z 92 else tabR K S x y fg
set_option maxRecDepth 20000 in
set_option maxHeartbeats 4000000 in
theorem s3_hasKinds_loop (l : Launch) (d : Nat) (h : MH) (n q a : Nat) (ho kd fg so : Int32) (sz : Nat) (hsz : sz ≤ 100) (el : Nat → Int32) (hS : h q = some (.inr (3, shF ho kd fg so (nI sz) a))) (hE : h a = some (ia 100 el)) : ∀ (r k : Nat), hkB el k = true → k + r = sz → V l mX3_hasKindsAlone (d + 2) 2 [some (.ref q), some (.int (nI k))] [] h n 0 0 (Pv (bI (hkB el sz)) h n) := by
  intro r
  induction r with
  | zero =>
    intro k hh hk
    refine V.iload_n dX3_hasKindsAlone_2 rfl ?_
    refine V.aload_n dX3_hasKindsAlone_3 rfl ?_
    refine V.getf dX3_hasKindsAlone_4 fl_X3_28 hS rfl ?_
    refine V.icmp_geN (tgt := 30) dX3_hasKindsAlone_7 (by decide) (by omega) (by omega) (fun _ => ?_) (fun q => absurd q (by omega))
    refine V.iconst (v := nI 1) dX3_hasKindsAlone_30 (by decide) ?_
    exact V.iretZ (by exact dX3_hasKindsAlone_31) rfl (by rw [show sz = k by omega, hh]; rfl) rfl
  | succ r ih =>
    intro k hh hk
    refine V.iload_n dX3_hasKindsAlone_2 rfl ?_
    refine V.aload_n dX3_hasKindsAlone_3 rfl ?_
    refine V.getf dX3_hasKindsAlone_4 fl_X3_28 hS rfl ?_
    refine V.icmp_geN (tgt := 30) dX3_hasKindsAlone_7 (by decide) (by omega) (by omega) (fun q => absurd q (by omega)) (fun _ => ?_)
    refine V.aload_n dX3_hasKindsAlone_10 rfl ?_
    refine V.getf dX3_hasKindsAlone_11 fl_X3_15 hS rfl ?_
    refine V.iload_n dX3_hasKindsAlone_14 rfl ?_
    refine V.ialdN dX3_hasKindsAlone_15 hE (by omega) (by decide) ?_
    refine V.callSv [_] dX3_hasKindsAlone_16 lk_X3_34 rfl (Nat.le_of_ble_eq_true rfl) (Nat.le_of_ble_eq_true rfl) (s5_isKind _ _ _ _ _) ?_
    refine V.if_neB (tgt := 24) dX3_hasKindsAlone_19 (by decide) (fun c19 => ?_) (fun c19 => ?_)
    · refine V.inN1 dX3_hasKindsAlone_24 (by decide) rfl ?_
      refine V.goto (tgt := 2) dX3_hasKindsAlone_27 (by decide) ?_
      exact ih (k + 1) (by rw [hkB, hh, c19]; rfl) (by omega)
    · refine V.iconst (v := nI 0) dX3_hasKindsAlone_22 (by decide) ?_
      exact V.iretZ (by exact dX3_hasKindsAlone_23) rfl (by rw [hk_no (show k < sz by omega) c19]; rfl) rfl
set_option maxRecDepth 20000 in
set_option maxHeartbeats 4000000 in
theorem s3_hasKinds (l : Launch) (d : Nat) (h : MH) (n q a : Nat) (ho kd fg so : Int32) (sz : Nat) (hsz : sz ≤ 100) (el : Nat → Int32) (hS : h q = some (.inr (3, shF ho kd fg so (nI sz) a))) (hE : h a = some (ia 100 el)) : Sp l mX3_hasKindsAlone (d + 2) [.ref q] h n 0 0 (Pv (bI (hkB el sz)) h n) := by
  show V _ _ _ _ [some (.ref q), none] _ _ _ _ _ _
  refine V.iconst (v := nI 0) dX3_hasKindsAlone_0 (by decide) ?_
  refine V.ist1 dX3_hasKindsAlone_1 (by decide) rfl ?_
  exact s3_hasKinds_loop l d h n q a ho kd fg so sz hsz el hS hE sz 0 rfl (by omega)
set_option maxRecDepth 20000 in
set_option maxHeartbeats 4000000 in
theorem s4_giveKinds_loop (l : Launch) (d n w m : Nat) (hm10 : m ≤ 10) (s fg : Int32) (cl P : Nat → Int32) (pn : Nat) (h0 : MH) (q e : Nat) (hqw : (q < w ∨ w + 18 ≤ q) ∧ (e < w ∨ w + 18 ≤ e)) (hol kd g0 so : Int32) (sz : Nat) (hsz : sz ≤ 100) (el : Nat → Int32) (hS0 : h0 q = some (.inr (3, shF hol kd g0 so (nI sz) e))) (hE0 : h0 e = some (ia 100 el)) : ∀ (r i a : Nat) (K : KK) (h : MH), WoodAt h w K cl P pn → K 90 = nI m → Out h0 h w → a ≤ i → i + r = m → V l mX4_giveKinds d 6 [some (.ref w), some (.int s), some (.ref q), some (.int fg), some (.int (nI a)), some (.int (nI i))] [] h n 0 0 (Wq w (gkL s el sz fg r i a K) cl P pn h0 n) := by
  intro r
  induction r with
  | zero =>
    intro i a K h hw hm ho hai hi
    refine V.iload dX4_giveKinds_6 rfl ?_
    refine V.aload_n dX4_giveKinds_8 rfl ?_
    refine V.getf dX4_giveKinds_9 fl_X4_51 hw.1 rfl ?_
    rw [hm]
    refine V.icmp_geN (tgt := 75) dX4_giveKinds_12 (by decide) (by omega) (by omega) (fun _ => ?_) (fun q => absurd q (by omega))
    exact V.vret (by exact dX4_giveKinds_75) rfl ⟨rfl, rfl, hw, ho⟩
  | succ r ih =>
    intro i a K h hw hm ho hai hi
    obtain ⟨pq, hpf, epf⟩ := hw.2.2.2.1
    have hS := (ho q (by omega)).trans hS0
    have hE := (ho e (by omega)).trans hE0
    refine V.iload dX4_giveKinds_6 rfl ?_
    refine V.aload_n dX4_giveKinds_8 rfl ?_
    refine V.getf dX4_giveKinds_9 fl_X4_51 hw.1 rfl ?_
    rw [hm]
    refine V.icmp_geN (tgt := 75) dX4_giveKinds_12 (by decide) (by omega) (by omega) (fun q => absurd q (by omega)) (fun _ => ?_)
    refine V.iload dX4_giveKinds_15 rfl ?_
    refine V.aload_n dX4_giveKinds_17 rfl ?_
    refine V.getf dX4_giveKinds_18 fl_X4_227 hS rfl ?_
    refine V.icmp_geN (tgt := 75) dX4_giveKinds_21 (by decide) (by omega) (by omega) (fun c21 => ?_) (fun c21 => ?_)
    · exact V.vret (by exact dX4_giveKinds_75) rfl ⟨rfl, rfl, by rw [gkL, if_neg (by omega)]; exact hw, ho⟩
    · refine V.aload_n dX4_giveKinds_24 rfl ?_
      refine V.getf dX4_giveKinds_25 fl_X4_20 hw.1 rfl ?_
      refine V.iload dX4_giveKinds_28 rfl ?_
      refine V.aaldN dX4_giveKinds_30 (Or.inl rfl) hpf (by omega) (by decide) (epf _ (by omega)) ?_
      refine V.getf dX4_giveKinds_31 fl_X4_104 (hw.2.2.2.2.2.2.2.2.1 i (by omega)) rfl ?_
      refine V.iload_n dX4_giveKinds_34 rfl ?_
      refine V.icmp_ne (tgt := 69) dX4_giveKinds_35 (by decide) (fun c35 => ?_) (fun c35 => ?_)
      · refine V.inN5 dX4_giveKinds_69 (by decide) rfl ?_
        refine V.goto (tgt := 6) dX4_giveKinds_72 (by decide) ?_
        rw [gkL, if_pos (by omega), if_neg c35]
        exact ih (i + 1) a K h hw hm ho (by omega) (by omega)
      · refine V.aload_n dX4_giveKinds_38 rfl ?_
        refine V.getf dX4_giveKinds_39 fl_X4_20 hw.1 rfl ?_
        refine V.iload dX4_giveKinds_42 rfl ?_
        refine V.aaldN dX4_giveKinds_44 (Or.inl rfl) hpf (by omega) (by decide) (epf _ (by omega)) ?_
        refine V.aload_n dX4_giveKinds_45 rfl ?_
        refine V.getf dX4_giveKinds_46 fl_X4_232 hS rfl ?_
        refine V.iload dX4_giveKinds_49 rfl ?_
        refine V.ialdN dX4_giveKinds_51 hE (by omega) (by decide) ?_
        refine V.putf dX4_giveKinds_52 fp_X4_122 (hw.2.2.2.2.2.2.2.2.1 i (by omega)) (Nat.le_of_ble_eq_true rfl) (fun _ => ⟨rfl, rfl⟩) ?_
        refine V.aload_n dX4_giveKinds_55 rfl ?_
        refine V.getf dX4_giveKinds_56 fl_X4_20 (o_ne hw.1 (by omega)) rfl ?_
        refine V.iload dX4_giveKinds_59 rfl ?_
        refine V.aaldN dX4_giveKinds_61 (Or.inl rfl) (o_ne hpf (by omega)) (by omega) (by decide) (epf _ (by omega)) ?_
        refine V.iload_n dX4_giveKinds_62 rfl ?_
        refine V.putf dX4_giveKinds_63 fp_X4_125 (hset_self _ _ _) (Nat.le_of_ble_eq_true rfl) (fun _ => ⟨rfl, rfl⟩) ?_
        rw [hset_hset, pF_kind]
        refine V.inN4 dX4_giveKinds_66 (by decide) rfl ?_
        refine V.inN5 dX4_giveKinds_69 (by decide) rfl ?_
        refine V.goto (tgt := 6) dX4_giveKinds_72 (by decide) ?_
        rw [gkL, if_pos (by omega), if_pos c35]
        exact ih (i + 1) (a + 1) _ _ (hw.role i (by omega) _ _) ((roleU_lo _ _ _ _ _ (by omega)).trans hm) (ho.set _ _ (by omega) (by omega)) (by omega) (by omega)
