/-! THE BEGINNING: what the constructors make -/
theorem oi_1 : Cond.instanceMethod Lib.objectInit ∈ WG := inW 62 (by decide +kernel) rfl
theorem oi_2 : Cond.code Lib.objectInit ⟨#[0xb1]⟩ 1 none ∈ WG := inW 63 (by decide +kernel) rfl
theorem cl_X4_18 : Cond.classLink RX4 18 "TwoFlags$Player" ∈ WG := inW 72 (by decide +kernel) rfl
theorem cl_X5_9 : Cond.classLink RX5 9 "TwoFlags$Shelf" ∈ WG := inW 64 (by decide +kernel) rfl
theorem V.callIu {l : Launch} {M : MT} {d pc : Nat} {ls : List (Option Value)} {st : List Value} {h : MH} {n c z : Nat} {Q : Option Value → MH → Nat → Prop} {N : MT} {idx k b : Nat} {h2 : MH} (As : List Value) (hd : decode M.2.1 pc = .ok (.invokespecial idx, 3)) (hk : LkI M.1.cls idx N k) (hA : As.length = k) (hlen : (ls0 (.ref b :: As)).length ≤ N.2.2.1) (hst : (st.map fun v => v.category).sum ≤ 8)
    (hN : Sp l N d (.ref b :: As) h n 0 0 (Pu h2 n)) (kk : V l M (d + 1) (pc + 3) ls st h2 n c z Q) : V l M (d + 1) pc ls (As.reverse ++ .ref b :: st) h n c z Q :=
  V.callI (c := c) (z := z) As hd hk hA hlen hst hN (fun r h1 n1 q => by obtain ⟨rfl, rfl, rfl⟩ := q; exact kk)
/-- the numbers before the first game begins; as it begins -/
def K00 : KK := fun j => if j = 84 then nI 1 else if j = 86 then nI 100 else if j = 89 then nI 200 else nI 0
theorem K00_z {j : Nat} (h1 : j ≠ 84) (h2 : j ≠ 86) (h3 : j ≠ 89) : K00 j = nI 0 := by
  rw [K00, if_neg h1, if_neg h2, if_neg h3]
def KS : KK := bgn K00 0 (nI 1)
def Z8 : List Value := [.int 0, .int 0, .int 0, .int 0, .int 0, .int 0, .int 0, .int 0]
set_option maxRecDepth 20000 in
set_option maxHeartbeats 4000000 in
theorem s0_init (l : Launch) (d : Nat) (h : MH) (n q : Nat) : Sp l mX0_init (d + 1) [.ref q] h n 0 0 (Pu h n) := by
  show V _ _ _ _ [some (.ref q)] _ _ _ _ _ _
  refine V.aload_n dX0_init_0 rfl ?_
  refine V.objInit dX0_init_1 wo_X0_1 oi_1 oi_2 (by omega) (Nat.le_of_ble_eq_true rfl) ?_
  exact V.vretP (by exact dX0_init_4) rfl rfl
def PLi (h0 : MH) (w : Nat) (fs : List Value) (i : Nat) (h : MH) : Prop := ∃ q : Nat → Option Nat, h w = some (.inr (4, fs)) ∧ h (w + 3) = some (.inl (3, 10, .inr (.inr (.inr (.inr q))))) ∧ (∀ j, j < i → q j = some (w + 8 + j)) ∧ (∀ j, j < i → h (w + 8 + j) = some (.inr (0, Z8))) ∧ ∀ p, p < w + 8 → p ≠ w + 3 → h p = h0 p
set_option maxRecDepth 20000 in
set_option maxHeartbeats 4000000 in
theorem s4_init_loop (l : Launch) (d : Nat) (w : Nat) (hw9 : w + 20 < 1000000) (h0 : MH) (fs : List Value) (hfs : fs[2]? = some (.ref (w + 3))) {Q : Option Value → MH → Nat → Prop} (kk : ∀ h1, PLi h0 w fs 10 h1 → V l mX4_init (d + 2) 113 [some (.ref w), some (.int (nI 10))] [] h1 (w + 18) 0 0 Q) :
    ∀ (r i : Nat) (h : MH), i + r = 10 → PLi h0 w fs i h → V l mX4_init (d + 2) 88 [some (.ref w), some (.int (nI i))] [] h (w + 8 + i) r (8 * r) Q := by
  intro r
  induction r with
  | zero =>
    intro i h hi hp
    have e : i = 10 := by omega
    subst e
    refine V.iload_n dX4_init_88 rfl ?_
    refine V.bipush (v := nI 10) dX4_init_89 (by decide) ?_
    refine V.icmp_geN (tgt := 113) dX4_init_91 (by decide) (by omega) (by omega) (fun _ => ?_) (fun q => absurd q (by omega))
    exact kk h hp
  | succ r ih =>
    intro i h hi hp
    obtain ⟨q, a1, a2, a3, a4, a5⟩ := hp
    show V _ _ _ _ _ _ _ _ (r + 1) (8 * r + 8) _
    refine V.iload_n dX4_init_88 rfl ?_
    refine V.bipush (v := nI 10) dX4_init_89 (by decide) ?_
    refine V.icmp_geN (tgt := 113) dX4_init_91 (by decide) (by omega) (by omega) (fun q => absurd q (by omega)) (fun _ => ?_)
    refine V.aload_n dX4_init_94 rfl ?_
    refine V.getf dX4_init_95 fl_X4_20 a1 hfs ?_
    refine V.iload_n dX4_init_98 rfl ?_
    refine V.new dX4_init_99 nc_X4_18 (by omega) ?_
    refine V.dup dX4_init_102 rfl ?_
    refine V.callIu [] dX4_init_103 lk_X4_36 rfl (Nat.le_of_ble_eq_true rfl) (Nat.le_of_ble_eq_true rfl) (s0_init _ _ _ _ _) ?_
    refine V.aast dX4_init_106 (Or.inl ⟨rfl, rfl⟩) (o_ne a2 (by omega)) (hset_self _ _ _) (vp_in_nI (by omega) (by decide)) ?_
    refine V.inN1 dX4_init_107 (by decide) rfl ?_
    refine V.goto (tgt := 88) dX4_init_110 (by decide) ?_
    refine ih (i + 1) _ (by omega) ⟨_, o_ne (o_ne a1 (by omega)) (by omega), hset_self _ _ _, fun j hj => ?_, fun j hj => ?_, fun p h1 h2 => ?_⟩
    · rw [nI_clamp (by omega)]
      by_cases e : j = i
      · subst e
        simp [va_up]
      · simp only [va_up, if_neg e]
        exact a3 j (by omega)
    · by_cases e : j = i
      · subst e
        exact o_ne (hset_self _ _ _) (by omega)
      · exact o_ne (o_ne (a4 j (by omega)) (by omega)) (by omega)
    · rw [hset_ne _ _ h2, hset_ne _ _ (by omega)]
      exact a5 p h1 h2
theorem RU_ok : ∀ j, j < 6 → (upd (upd (upd (upd (upd (upd (fun _ => 0) 0 (nI 1)) 1 (nI 0)) 2 (nI 100)) 3 (nI 0)) 4 (nI 0)) 5 (nI 200)) j = K00 (84 + j) := by
  intro j hj
  rcases (show j = 0 ∨ j = 1 ∨ j = 2 ∨ j = 3 ∨ j = 4 ∨ j = 5 by omega) with rfl | rfl | rfl | rfl | rfl | rfl <;> decide
/-- what stands where a wood has been made -/
def Wn (h : MH) (w : Nat) : Option Value → MH → Nat → Prop := fun r h1 n1 => r = none ∧ n1 = w + 18 ∧ (∃ cl P : Nat → Int32, WoodAt h1 w KS cl P 0 ∧ PR KS P 0) ∧ ∀ p, p < w → h1 p = h p
theorem PR_0 (P : Nat → Int32) : PR KS P 0 := by
  refine ⟨by omega, fun e he => ⟨?_, ?_⟩, fun i hi => by omega, fun i e hi => by omega⟩
  · show KS (100 + 7 * e) = nI 0
    rcases (show e = 0 ∨ e = 1 by omega) with rfl | rfl <;> decide
  · show 0 ≤ 2
    omega
theorem Wb_0 {h h0 : MH} {w : Nat} (hp : PLi h0 w [.ref (w + 1), .ref (w + 2), .ref (w + 3), .int 0, .ref (w + 4), .int 0, .ref (w + 5), .ref (w + 6), .int 0, .int 0, .int 0, .int 0, .int 0, .ref (w + 7)] 10 h) (g1 : h0 (w + 1) = some (.inl (0, 84, .inl (fun _ => 0)))) (g2 : h0 (w + 2) = some (.inl (0, 6, .inl (upd (upd (upd (upd (upd (upd (fun _ => 0) 0 (nI 1)) 1 (nI 0)) 2 (nI 100)) 3 (nI 0)) 4 (nI 0)) 5 (nI 200))))) (g4 : h0 (w + 4) = some (.inl (0, 16, .inl (fun _ => 0)))) (g5 : h0 (w + 5) = some (.inl (0, 2, .inl (fun _ => 0)))) (g6 : h0 (w + 6) = some (.inl (0, 2, .inl (fun _ => 0)))) (g7 : h0 (w + 7) = some (.inl (0, 10, .inl (fun _ => 0)))) : Wb h w K00 0 0 (fun _ => nI 0) (fun _ => 0) 0 := by
  obtain ⟨q, a1, a2, a3, a4, a5⟩ := hp
  have gz : ∀ i u, gP K00 i u = nI 0 := fun i u => K00_z (by omega) (by omega) (by omega)
  refine ⟨a1, ⟨_, (a5 _ (by omega) (by omega)).trans g1, fun c hc => (K00_z (by omega) (by omega) (by omega)).symm⟩, ⟨_, (a5 _ (by omega) (by omega)).trans g2, RU_ok⟩, ⟨q, a2, a3⟩, (a5 _ (by omega) (by omega)).trans g4, ⟨_, (a5 _ (by omega) (by omega)).trans g5⟩, ⟨_, (a5 _ (by omega) (by omega)).trans g6⟩, ⟨_, (a5 _ (by omega) (by omega)).trans g7⟩, fun i hi => ⟨nI 0, nI 0, nI 0, ?_, fun _ => ⟨?_, ?_, ?_⟩⟩, fun i hi => Or.inl (gz i 5)⟩
  · rw [a4 i hi, gz, gz, gz, gz, gz]
    rfl
  · rw [cAt, gz, if_neg (by decide), gz]
  · rw [gz]
  · rw [gz]
    rfl
set_option maxRecDepth 20000 in
set_option maxHeartbeats 4000000 in
theorem s4_init (l : Launch) (d : Nat) (h : MH) (w : Nat) (hw9 : w + 20 < 1000000) (hw : h w = some (.inr (4, [.null, .null, .null, .int 0, .null, .int 0, .null, .null, .int 0, .int 0, .int 0, .int 0, .int 0, .null]))) : Sp l mX4_init (d + 2) [.ref w] h (w + 1) 17 210 (Wn h w) := by
  show V _ _ _ _ [some (.ref w), none] _ _ _ _ _ _
  refine V.aload_n dX4_init_0 rfl ?_
  refine V.objInit dX4_init_1 wo_X4_3 oi_1 oi_2 (by omega) (Nat.le_of_ble_eq_true rfl) ?_
  refine V.aload_n dX4_init_4 rfl ?_
  refine V.bipush (v := nI 84) dX4_init_5 (by decide) ?_
  refine V.newI (c := 16) (z := 126) (N := 84) dX4_init_7 w_ac_int (nI_pos (by omega)) (nI_clamp (by omega)) (by omega) (by omega) ?_
  change V _ _ _ _ _ _ _ (w + 2) _ _ _
  refine V.putF dX4_init_9 rfl ff_X4_9 (o_ne hw (by omega)) (Nat.le_of_ble_eq_true rfl) (fun _ => ⟨rfl, rfl⟩) ?_
  change V _ _ _ _ _ _ (hset _ w (.inr (4, [.ref (w + 1), .null, .null, .int 0, .null, .int 0, .null, .null, .int 0, .int 0, .int 0, .int 0, .int 0, .null]))) _ _ _ _
  refine V.aload_n dX4_init_12 rfl ?_
  refine V.bipush (v := nI 6) dX4_init_13 (by decide) ?_
  refine V.newI (c := 15) (z := 120) (N := 6) dX4_init_15 w_ac_int (nI_pos (by omega)) (nI_clamp (by omega)) (by omega) (by omega) ?_
  change V _ _ _ _ _ _ _ (w + 3) _ _ _
  refine V.dup dX4_init_17 rfl ?_
  refine V.iconst (v := nI 0) dX4_init_18 (by decide) ?_
  refine V.iconst (v := nI 1) dX4_init_19 (by decide) ?_
  refine V.iastN dX4_init_20 (hset_self _ _ _) (by omega) (by decide) ?_
  rw [hset_hset]
  refine V.dup dX4_init_21 rfl ?_
  refine V.iconst (v := nI 1) dX4_init_22 (by decide) ?_
  refine V.iconst (v := nI 0) dX4_init_23 (by decide) ?_
  refine V.iastN dX4_init_24 (hset_self _ _ _) (by omega) (by decide) ?_
  rw [hset_hset]
  refine V.dup dX4_init_25 rfl ?_
  refine V.iconst (v := nI 2) dX4_init_26 (by decide) ?_
  refine V.bipush (v := nI 100) dX4_init_27 (by decide) ?_
  refine V.iastN dX4_init_29 (hset_self _ _ _) (by omega) (by decide) ?_
  rw [hset_hset]
  refine V.dup dX4_init_30 rfl ?_
  refine V.iconst (v := nI 3) dX4_init_31 (by decide) ?_
  refine V.iconst (v := nI 0) dX4_init_32 (by decide) ?_
  refine V.iastN dX4_init_33 (hset_self _ _ _) (by omega) (by decide) ?_
  rw [hset_hset]
  refine V.dup dX4_init_34 rfl ?_
  refine V.iconst (v := nI 4) dX4_init_35 (by decide) ?_
  refine V.iconst (v := nI 0) dX4_init_36 (by decide) ?_
  refine V.iastN dX4_init_37 (hset_self _ _ _) (by omega) (by decide) ?_
  rw [hset_hset]
  refine V.dup dX4_init_38 rfl ?_
  refine V.iconst (v := nI 5) dX4_init_39 (by decide) ?_
  refine V.sipush (v := nI 200) dX4_init_40 (by decide) ?_
  refine V.iastN dX4_init_43 (hset_self _ _ _) (by omega) (by decide) ?_
  rw [hset_hset]
  refine V.putF dX4_init_44 rfl ff_X4_15 (o_ne (hset_self _ _ _) (by omega)) (Nat.le_of_ble_eq_true rfl) (fun _ => ⟨rfl, rfl⟩) ?_
  change V _ _ _ _ _ _ (hset _ w (.inr (4, [.ref (w + 1), .ref (w + 2), .null, .int 0, .null, .int 0, .null, .null, .int 0, .int 0, .int 0, .int 0, .int 0, .null]))) _ _ _ _
  refine V.aload_n dX4_init_47 rfl ?_
  refine V.bipush (v := nI 10) dX4_init_48 (by decide) ?_
  refine V.newQ (c := 14) (z := 110) (N := 10) (t := 3) dX4_init_50 cl_X4_18 (Or.inl ⟨rfl, rfl⟩) (nI_pos (by omega)) (nI_clamp (by omega)) (by omega) (by omega) ?_
  change V _ _ _ _ _ _ _ (w + 4) _ _ _
  refine V.putF dX4_init_53 rfl ff_X4_20 (o_ne (hset_self _ _ _) (by omega)) (Nat.le_of_ble_eq_true rfl) (fun _ => ⟨rfl, rfl⟩) ?_
  change V _ _ _ _ _ _ (hset _ w (.inr (4, [.ref (w + 1), .ref (w + 2), .ref (w + 3), .int 0, .null, .int 0, .null, .null, .int 0, .int 0, .int 0, .int 0, .int 0, .null]))) _ _ _ _
  refine V.aload_n dX4_init_56 rfl ?_
  refine V.bipush (v := nI 16) dX4_init_57 (by decide) ?_
  refine V.newI (c := 13) (z := 94) (N := 16) dX4_init_59 w_ac_int (nI_pos (by omega)) (nI_clamp (by omega)) (by omega) (by omega) ?_
  change V _ _ _ _ _ _ _ (w + 5) _ _ _
  refine V.putF dX4_init_61 rfl ff_X4_24 (o_ne (hset_self _ _ _) (by omega)) (Nat.le_of_ble_eq_true rfl) (fun _ => ⟨rfl, rfl⟩) ?_
  change V _ _ _ _ _ _ (hset _ w (.inr (4, [.ref (w + 1), .ref (w + 2), .ref (w + 3), .int 0, .ref (w + 4), .int 0, .null, .null, .int 0, .int 0, .int 0, .int 0, .int 0, .null]))) _ _ _ _
  refine V.aload_n dX4_init_64 rfl ?_
  refine V.iconst (v := nI 2) dX4_init_65 (by decide) ?_
  refine V.newI (c := 12) (z := 92) (N := 2) dX4_init_66 w_ac_int (nI_pos (by omega)) (nI_clamp (by omega)) (by omega) (by omega) ?_
  change V _ _ _ _ _ _ _ (w + 6) _ _ _
  refine V.putF dX4_init_68 rfl ff_X4_27 (o_ne (hset_self _ _ _) (by omega)) (Nat.le_of_ble_eq_true rfl) (fun _ => ⟨rfl, rfl⟩) ?_
  change V _ _ _ _ _ _ (hset _ w (.inr (4, [.ref (w + 1), .ref (w + 2), .ref (w + 3), .int 0, .ref (w + 4), .int 0, .ref (w + 5), .null, .int 0, .int 0, .int 0, .int 0, .int 0, .null]))) _ _ _ _
  refine V.aload_n dX4_init_71 rfl ?_
  refine V.iconst (v := nI 2) dX4_init_72 (by decide) ?_
  refine V.newI (c := 11) (z := 90) (N := 2) dX4_init_73 w_ac_int (nI_pos (by omega)) (nI_clamp (by omega)) (by omega) (by omega) ?_
  change V _ _ _ _ _ _ _ (w + 7) _ _ _
  refine V.putF dX4_init_75 rfl ff_X4_30 (o_ne (hset_self _ _ _) (by omega)) (Nat.le_of_ble_eq_true rfl) (fun _ => ⟨rfl, rfl⟩) ?_
  change V _ _ _ _ _ _ (hset _ w (.inr (4, [.ref (w + 1), .ref (w + 2), .ref (w + 3), .int 0, .ref (w + 4), .int 0, .ref (w + 5), .ref (w + 6), .int 0, .int 0, .int 0, .int 0, .int 0, .null]))) _ _ _ _
  refine V.aload_n dX4_init_78 rfl ?_
  refine V.bipush (v := nI 10) dX4_init_79 (by decide) ?_
  refine V.newI (c := 10) (z := 80) (N := 10) dX4_init_81 w_ac_int (nI_pos (by omega)) (nI_clamp (by omega)) (by omega) (by omega) ?_
  change V _ _ _ _ _ _ _ (w + 8) _ _ _
  refine V.putF dX4_init_83 rfl ff_X4_33 (o_ne (hset_self _ _ _) (by omega)) (Nat.le_of_ble_eq_true rfl) (fun _ => ⟨rfl, rfl⟩) ?_
  change V _ _ _ _ _ _ (hset _ w (.inr (4, [.ref (w + 1), .ref (w + 2), .ref (w + 3), .int 0, .ref (w + 4), .int 0, .ref (w + 5), .ref (w + 6), .int 0, .int 0, .int 0, .int 0, .int 0, .ref (w + 7)]))) _ _ _ _
  refine V.iconst (v := nI 0) dX4_init_86 (by decide) ?_
  refine V.ist1 dX4_init_87 (by decide) rfl ?_
  refine s4_init_loop l d w hw9 _ [.ref (w + 1), .ref (w + 2), .ref (w + 3), .int 0, .ref (w + 4), .int 0, .ref (w + 5), .ref (w + 6), .int 0, .int 0, .int 0, .int 0, .int 0, .ref (w + 7)] rfl (fun h1 hp => ?_) 10 0 _ rfl ⟨_, (hset_self _ _ _), (o_ne (o_ne (o_ne (o_ne (o_ne (o_ne (o_ne (o_ne (o_ne (hset_self _ _ _) (by omega)) (by omega)) (by omega)) (by omega)) (by omega)) (by omega)) (by omega)) (by omega)) (by omega)), fun j hj => by omega, fun j hj => by omega, fun p _ _ => rfl⟩
  have hb := Wb_0 hp (o_ne (o_ne (o_ne (o_ne (o_ne (o_ne (o_ne (o_ne (o_ne (o_ne (o_ne (o_ne (o_ne (hset_self _ _ _) (by omega)) (by omega)) (by omega)) (by omega)) (by omega)) (by omega)) (by omega)) (by omega)) (by omega)) (by omega)) (by omega)) (by omega)) (by omega)) (o_ne (o_ne (o_ne (o_ne (o_ne (o_ne (o_ne (o_ne (o_ne (o_ne (o_ne (hset_self _ _ _) (by omega)) (by omega)) (by omega)) (by omega)) (by omega)) (by omega)) (by omega)) (by omega)) (by omega)) (by omega)) (by omega)) (o_ne (o_ne (o_ne (o_ne (o_ne (o_ne (o_ne (hset_self _ _ _) (by omega)) (by omega)) (by omega)) (by omega)) (by omega)) (by omega)) (by omega)) (o_ne (o_ne (o_ne (o_ne (o_ne (hset_self _ _ _) (by omega)) (by omega)) (by omega)) (by omega)) (by omega)) (o_ne (o_ne (o_ne (hset_self _ _ _) (by omega)) (by omega)) (by omega)) (o_ne (hset_self _ _ _) (by omega))
  have h0p : ∀ p, p < w → h1 p = h p := fun p hpw => by
    obtain ⟨q, -, -, -, -, a5⟩ := hp
    rw [a5 p (by omega) (by omega)]
    (repeat rw [hset_ne _ _ (by omega)])
  refine V.aload_n dX4_init_113 rfl ?_
  refine V.iconst (v := nI 1) dX4_init_114 (by decide) ?_
  refine V.callV (c := 0) (z := 0) (c1 := 0) (z1 := 0) [_] dX4_init_115 lk_X4_37 rfl (Nat.le_of_ble_eq_true rfl) (Nat.le_of_ble_eq_true rfl) hb.1 rfl (s4_begin _ _ _ _ _ 0 0 K00 _ _ _ (K00_z (by omega) (by omega) (by omega)) (by omega) hb) (fun r h2 n2 q => ?_)
  obtain ⟨rfl, e9, hwd, hout⟩ := q
  rw [e9]
  exact V.vret (by exact dX4_init_118) rfl ⟨rfl, rfl, ⟨_, _, hwd, PR_0 _⟩, fun p hpw => by rw [hout p (Or.inl hpw)]; exact h0p p hpw⟩
