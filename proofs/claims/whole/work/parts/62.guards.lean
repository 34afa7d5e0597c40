def pcR : Nat → Nat → Nat
  | 0, _ => 0
  | r + 1, v => v % 2 + pcR r (v / 2)
def pcN (v : Nat) : Nat := pcR 7 v
def bt (rows g : Nat) : Bool := decide (rows / 2 ^ g % 2 = 1)
theorem bt_is : ∀ rows, rows < 128 → ∀ g, g < 7 → (nI rows >>> (nI g &&& 31)) &&& nI 1 = nI (if bt rows g = true then 1 else 0) := by decide +kernel
theorem or_is : ∀ y, y < 7 → ∀ o, o < 64 → o < 2 ^ y → nI o ||| (nI 1 <<< (nI y &&& 31)) = nI (o + 2 ^ y) := by decide +kernel
theorem v_and : ∀ v, v < 128 → nI v &&& nI 1 = nI (v % 2) := by decide +kernel
theorem v_shr : ∀ v, v < 128 → nI v >>> (nI 1 &&& 31) = nI (v / 2) := by decide +kernel
theorem am_is : ∀ g, g < 7 → ∀ y, y < 7 → ∀ d, d < 7 → (am (nI g - nI y) ≤ nI d ↔ y ≤ g + d ∧ g ≤ y + d) := by decide +kernel
def seB2 (rows d y g : Nat) : Bool := bt rows g && decide (y ≤ g + d ∧ g ≤ y + d)
/-- the rows that are open -/
def opN (K : KK) (col : Nat) : Nat → Nat
  | 0 => 0
  | y + 1 => opN K col y + (if K (12 * y + col) = nI 3 then 0 else 2 ^ y)
theorem opN_lt (K : KK) (col : Nat) : ∀ y, opN K col y < 2 ^ y := by
  intro y
  induction y with
  | zero => show 0 < 1; omega
  | succ y ih => rw [opN, Nat.pow_succ]; split <;> omega
theorem op7 : ∀ b0 b1 b2 b3 b4 b5 b6 : Bool, let o := 0 + (if b0 = true then 0 else 2 ^ 0) + (if b1 = true then 0 else 2 ^ 1) + (if b2 = true then 0 else 2 ^ 2) + (if b3 = true then 0 else 2 ^ 3) + (if b4 = true then 0 else 2 ^ 4) + (if b5 = true then 0 else 2 ^ 5) + (if b6 = true then 0 else 2 ^ 6); bt o 0 = !b0 ∧ bt o 1 = !b1 ∧ bt o 2 = !b2 ∧ bt o 3 = !b3 ∧ bt o 4 = !b4 ∧ bt o 5 = !b5 ∧ bt o 6 = !b6 := by decide +kernel
theorem bt_op (K : KK) (col y : Nat) (hy : y < 7) : bt (opN K col 7) y = !decide (K (12 * y + col) = nI 3) := by
  have h := op7 (decide (K (12 * 0 + col) = nI 3)) (decide (K (12 * 1 + col) = nI 3)) (decide (K (12 * 2 + col) = nI 3)) (decide (K (12 * 3 + col) = nI 3)) (decide (K (12 * 4 + col) = nI 3)) (decide (K (12 * 5 + col) = nI 3)) (decide (K (12 * 6 + col) = nI 3))
  simp only [decide_eq_true_eq] at h
  rcases (show y = 0 ∨ y = 1 ∨ y = 2 ∨ y = 3 ∨ y = 4 ∨ y = 5 ∨ y = 6 by omega) with rfl | rfl | rfl | rfl | rfl | rfl | rfl
  · exact h.1
  · exact h.2.1
  · exact h.2.2.1
  · exact h.2.2.2.1
  · exact h.2.2.2.2.1
  · exact h.2.2.2.2.2.1
  · exact h.2.2.2.2.2.2
def g2B (K : KK) (col rows d y : Nat) : Bool := decide (K (12 * y + col) = nI 3) || decide (2 ≤ cN (seB2 rows d y) 7)
def s2B (K : KK) (col rows d : Nat) : Bool := aB (g2B K col rows d) 7
def gok (K : KK) (col d rows : Nat) : Bool := decide (nI rows &&& (nI (opN K col 7) ^^^ -1) = 0) && s2B K col rows d
def fwB (r : Nat) : Option Nat → Bool
  | none => true
  | some b => decide (pcN r < pcN b)
/-- the fewest guards among the first rows -/
def gdS (ok : Nat → Bool) : Nat → Option Nat
  | 0 => none
  | r + 1 => if (ok r && fwB r (gdS ok r)) = true then some r else gdS ok r
def gI : Option Nat → Int32
  | none => -4
  | some b => nI b
theorem gdS_lt (ok : Nat → Bool) : ∀ r b, gdS ok r = some b → b < r := by
  intro r
  induction r with
  | zero => intro b h; cases h
  | succ r ih =>
    intro b h
    rw [gdS] at h
    by_cases c : (ok r && fwB r (gdS ok r)) = true
    · rw [if_pos c] at h
      have := Option.some.inj h; omega
    · rw [if_neg c] at h
      have := ih b h; omega
def gvO (w : Int32) : Option Nat → Int32
  | none => -4
  | some b => if w = 0 then nI (pcN b) else nI b
def guardsV (K : KK) (x d w : Int32) : Int32 := if (wi x (nI 0) (nI 1) && (wi d (nI 0) (nI 6) && wi w (nI 0) (nI 1))) = true then gvO w (gdS (gok K (if x = 0 then 5 else 6) d.toNatClampNeg) 128) else -1
set_option maxRecDepth 20000 in
set_option maxHeartbeats 4000000 in
theorem j6_bitCount (l : Launch) (d : Nat) (h : MH) (n r : Nat) (hr : r < 128) : Sp l mJ6_bitCount_0f7a4 d [.int (nI r)] h n 0 0 (Pv (nI (pcN r)) h n) := by
  show V _ _ _ _ [some (.int (nI r))] _ _ _ _ _ _
  refine V.iload_n dJ6_bitCount_0f7a4_0 rfl ?_
  refine V.iload_n dJ6_bitCount_0f7a4_1 rfl ?_
  refine V.iconst (v := nI 1) dJ6_bitCount_0f7a4_2 (by decide) ?_
  refine V.iushr dJ6_bitCount_0f7a4_3 ?_
  refine V.ldcw dJ6_bitCount_0f7a4_4 cn_J6_265 ?_
  refine V.iand dJ6_bitCount_0f7a4_7 ?_
  refine V.isub dJ6_bitCount_0f7a4_8 ?_
  refine V.ist0 dJ6_bitCount_0f7a4_9 (by decide) rfl ?_
  refine V.iload_n dJ6_bitCount_0f7a4_10 rfl ?_
  refine V.ldcw dJ6_bitCount_0f7a4_11 cn_J6_266 ?_
  refine V.iand dJ6_bitCount_0f7a4_14 ?_
  refine V.iload_n dJ6_bitCount_0f7a4_15 rfl ?_
  refine V.iconst (v := nI 2) dJ6_bitCount_0f7a4_16 (by decide) ?_
  refine V.iushr dJ6_bitCount_0f7a4_17 ?_
  refine V.ldcw dJ6_bitCount_0f7a4_18 cn_J6_266 ?_
  refine V.iand dJ6_bitCount_0f7a4_21 ?_
  refine V.iadd dJ6_bitCount_0f7a4_22 ?_
  refine V.ist0 dJ6_bitCount_0f7a4_23 (by decide) rfl ?_
  refine V.iload_n dJ6_bitCount_0f7a4_24 rfl ?_
  refine V.iload_n dJ6_bitCount_0f7a4_25 rfl ?_
  refine V.iconst (v := nI 4) dJ6_bitCount_0f7a4_26 (by decide) ?_
  refine V.iushr dJ6_bitCount_0f7a4_27 ?_
  refine V.iadd dJ6_bitCount_0f7a4_28 ?_
  refine V.ldcw dJ6_bitCount_0f7a4_29 cn_J6_267 ?_
  refine V.iand dJ6_bitCount_0f7a4_32 ?_
  refine V.ist0 dJ6_bitCount_0f7a4_33 (by decide) rfl ?_
  refine V.iload_n dJ6_bitCount_0f7a4_34 rfl ?_
  refine V.iload_n dJ6_bitCount_0f7a4_35 rfl ?_
  refine V.bipush (v := nI 8) dJ6_bitCount_0f7a4_36 (by decide) ?_
  refine V.iushr dJ6_bitCount_0f7a4_38 ?_
  refine V.iadd dJ6_bitCount_0f7a4_39 ?_
  refine V.ist0 dJ6_bitCount_0f7a4_40 (by decide) rfl ?_
  refine V.iload_n dJ6_bitCount_0f7a4_41 rfl ?_
  refine V.iload_n dJ6_bitCount_0f7a4_42 rfl ?_
  refine V.bipush (v := nI 16) dJ6_bitCount_0f7a4_43 (by decide) ?_
  refine V.iushr dJ6_bitCount_0f7a4_45 ?_
  refine V.iadd dJ6_bitCount_0f7a4_46 ?_
  refine V.ist0 dJ6_bitCount_0f7a4_47 (by decide) rfl ?_
  refine V.iload_n dJ6_bitCount_0f7a4_48 rfl ?_
  refine V.bipush (v := nI 63) dJ6_bitCount_0f7a4_49 (by decide) ?_
  refine V.iand dJ6_bitCount_0f7a4_51 ?_
  exact V.iretP (by exact dJ6_bitCount_0f7a4_52) rfl (by revert r; decide +kernel) rfl
theorem pcR_0 : ∀ r, pcR r 0 = 0 := by
  intro r
  induction r with
  | zero => rfl
  | succ r ih => rw [pcR, Nat.zero_div, ih]
set_option maxRecDepth 20000 in
set_option maxHeartbeats 4000000 in
theorem s6_bits_loop (l : Launch) (d : Nat) (h : MH) (n : Nat) (x : Int32) : ∀ (r v c : Nat), v < 2 ^ r → r ≤ 7 → V l mX6_bits d 4 [some (.int x), some (.int (nI c)), some (.int (nI v))] [] h n 0 0 (Pv (nI (c + pcR r v)) h n) := by
  intro r
  induction r with
  | zero =>
    intro v c hv hr
    have hv0 : v = 0 := by omega
    subst hv0
    refine V.iload_n dX6_bits_4 rfl ?_
    refine V.if_le (tgt := 21) dX6_bits_5 (by decide) (fun _ => ?_) (fun q => absurd (by decide) q)
    refine V.iload_n dX6_bits_21 rfl ?_
    exact V.iretP (by exact dX6_bits_22) rfl rfl rfl
  | succ r ih =>
    intro v c hv hr
    have hv2 : v < 128 := Nat.lt_of_lt_of_le hv (Nat.pow_le_pow_right (by omega) hr)
    have hv3 : v / 2 < 2 ^ r := by rw [Nat.pow_succ] at hv; omega
    refine V.iload_n dX6_bits_4 rfl ?_
    refine V.if_le (tgt := 21) dX6_bits_5 (by decide) (fun c5 => ?_) (fun c5 => ?_)
    · have hv0 : v = 0 := by
        have := (nI_leI (a := v) (b := 0) (by omega) (by omega)).mp c5
        omega
      subst hv0
      refine V.iload_n dX6_bits_21 rfl ?_
      exact V.iretP (by exact dX6_bits_22) rfl (by rw [pcR_0]; rfl) rfl
    · refine V.iload_n dX6_bits_8 rfl ?_
      refine V.iload_n dX6_bits_9 rfl ?_
      refine V.iconst (v := nI 1) dX6_bits_10 (by decide) ?_
      refine V.iand dX6_bits_11 ?_
      rw [v_and v hv2]
      refine V.iaddN dX6_bits_12 ?_
      refine V.ist1 dX6_bits_13 (by decide) rfl ?_
      refine V.iload_n dX6_bits_14 rfl ?_
      refine V.iconst (v := nI 1) dX6_bits_15 (by decide) ?_
      refine V.ishr dX6_bits_16 ?_
      rw [v_shr v hv2]
      refine V.ist2 dX6_bits_17 (by decide) rfl ?_
      refine V.goto (tgt := 4) dX6_bits_18 (by decide) ?_
      rw [pcR, ← Nat.add_assoc]
      exact ih (v / 2) (c + v % 2) hv3 (by omega)
theorem s6_bits (l : Launch) (d : Nat) (h : MH) (n r : Nat) (hr : r < 128) : Sp l mX6_bits d [.int (nI r)] h n 0 0 (Pv (nI (pcN r)) h n) := by
  show V _ _ _ _ [some (.int (nI r)), none, none] _ _ _ _ _ _
  refine V.iconst (v := nI 0) dX6_bits_0 (by decide) ?_
  refine V.ist1 dX6_bits_1 (by decide) rfl ?_
  refine V.iload_n dX6_bits_2 rfl ?_
  refine V.ist2 dX6_bits_3 (by decide) rfl ?_
  have key := s6_bits_loop l d h n (nI r) 7 r 0 hr (by omega)
  rw [Nat.zero_add] at key
  exact key
set_option maxRecDepth 20000 in
set_option maxHeartbeats 4000000 in
theorem s6_guardsAll_in (l : Launch) (d : Nat) (h : MH) (n : Nat) (K : KK) (b : Bool) (th po ba en tt : Int32) (hm0 : h 78 = some (.inr (6, moF b th po ba en tt))) (ha : h 79 = some (kc K)) (col rows dd : Nat) (hcol : col < 12) (hrows : rows < 128) (hdd : dd < 7) (y : Nat) (hy : y < 7) {Q : Option Value → MH → Nat → Prop} (kk : V l mX6_guardsAll (d + 1) 80 [some (.ref 78), some (.int (nI col)), some (.int (nI rows)), some (.int (nI dd)), some (.int (nI y)), some (.int (nI (cN (seB2 rows dd y) 7))), none] [] h n 0 0 Q) : ∀ (r i : Nat), i + r = 7 → V l mX6_guardsAll (d + 1) 35 [some (.ref 78), some (.int (nI col)), some (.int (nI rows)), some (.int (nI dd)), some (.int (nI y)), some (.int (nI (cN (seB2 rows dd y) i))), some (.int (nI i))] [] h n 0 0 Q := by
  intro r
  induction r with
  | zero =>
    intro i hi
    have hy2 := hy
    refine V.iload dX6_guardsAll_35 rfl ?_
    refine V.bipush (v := nI 7) dX6_guardsAll_37 (by decide) ?_
    refine V.icmp_geN (tgt := 80) dX6_guardsAll_39 (by decide) (by omega) (by omega) (fun _ => ?_) (fun q => absurd q (by omega))
    have hi7 : i = 7 := by omega
    subst hi7
    exact V.drop 6 kk
  | succ r ih =>
    intro i hi
    have hy2 := hy
    refine V.iload dX6_guardsAll_35 rfl ?_
    refine V.bipush (v := nI 7) dX6_guardsAll_37 (by decide) ?_
    refine V.icmp_geN (tgt := 80) dX6_guardsAll_39 (by decide) (by omega) (by omega) (fun q => absurd q (by omega)) (fun _ => ?_)
    refine V.iload dX6_guardsAll_42 rfl ?_
    refine V.iload_n dX6_guardsAll_44 rfl ?_
    refine V.iload dX6_guardsAll_45 rfl ?_
    refine V.ishr dX6_guardsAll_47 ?_
    refine V.iconst (v := nI 1) dX6_guardsAll_48 (by decide) ?_
    refine V.iand dX6_guardsAll_49 ?_
    rw [bt_is rows hrows i (by omega)]
    refine V.iconst (v := nI 1) dX6_guardsAll_50 (by decide) ?_
    refine V.icmp_neN (tgt := 70) dX6_guardsAll_51 (by decide) (by split <;> omega) (by omega) (fun c51 => ?_) (fun c51 => ?_)
    · have hb : bt rows i = true → ¬ am (nI i - nI y) ≤ nI dd := fun hb => by
        first
        | (exfalso; rw [if_pos hb] at c51; exact c51 rfl)
        | exact Int32.not_le.mpr c63
      have hf : seB2 rows dd y i = false := by
        unfold seB2
        cases q : bt rows i with
        | false => rfl
        | true => rw [decide_eq_false (fun z => hb q ((am_is i (by omega) y (by omega) dd (by omega)).mpr z))]; rfl
      refine V.iconst (v := nI 0) dX6_guardsAll_70 (by decide) ?_
      refine V.iaddN dX6_guardsAll_71 ?_
      refine V.ist5 dX6_guardsAll_72 (by decide) rfl ?_
      refine V.inN6 dX6_guardsAll_74 (by decide) rfl ?_
      refine V.goto (tgt := 35) dX6_guardsAll_77 (by decide) ?_
      exact V.ls (by simp only [cN, hf, not_true_eq_false, not_false_eq_true, if_true, if_false, decide_true, decide_false, Bool.and_true, Bool.and_false, Bool.true_and, Bool.false_and, Bool.or_true, Bool.or_false, Bool.true_or, Bool.false_or, Bool.not_true, Bool.not_false, and_true, and_false, true_and, false_and, or_true, or_false, true_or, false_or, bIt, bIf, Bool.false_eq_true, reduceCtorEq, Nat.add_zero]) (ih (i + 1) (by omega))
    · refine V.iload dX6_guardsAll_54 rfl ?_
      refine V.iload dX6_guardsAll_56 rfl ?_
      refine V.isub dX6_guardsAll_58 ?_
      refine V.callSv [_] dX6_guardsAll_59 lk_X6_68 rfl (Nat.le_of_ble_eq_true rfl) (Nat.le_of_ble_eq_true rfl) (s6_amount _ _ _ _ _) ?_
      refine V.iload_n dX6_guardsAll_62 rfl ?_
      refine V.icmp_gt (tgt := 70) dX6_guardsAll_63 (by decide) (fun c63 => ?_) (fun c63 => ?_)
      · have hb : bt rows i = true → ¬ am (nI i - nI y) ≤ nI dd := fun hb => by
          first
          | (exfalso; rw [if_pos hb] at c51; exact c51 rfl)
          | exact Int32.not_le.mpr c63
        have hf : seB2 rows dd y i = false := by
          unfold seB2
          cases q : bt rows i with
          | false => rfl
          | true => rw [decide_eq_false (fun z => hb q ((am_is i (by omega) y (by omega) dd (by omega)).mpr z))]; rfl
        refine V.iconst (v := nI 0) dX6_guardsAll_70 (by decide) ?_
        refine V.iaddN dX6_guardsAll_71 ?_
        refine V.ist5 dX6_guardsAll_72 (by decide) rfl ?_
        refine V.inN6 dX6_guardsAll_74 (by decide) rfl ?_
        refine V.goto (tgt := 35) dX6_guardsAll_77 (by decide) ?_
        exact V.ls (by simp only [cN, hf, not_true_eq_false, not_false_eq_true, if_true, if_false, decide_true, decide_false, Bool.and_true, Bool.and_false, Bool.true_and, Bool.false_and, Bool.or_true, Bool.or_false, Bool.true_or, Bool.false_or, Bool.not_true, Bool.not_false, and_true, and_false, true_and, false_and, or_true, or_false, true_or, false_or, bIt, bIf, Bool.false_eq_true, reduceCtorEq, Nat.add_zero]) (ih (i + 1) (by omega))
      · have hb : bt rows i = true := by
          cases q : bt rows i with
          | true => rfl
          | false => rw [q] at c51; exact absurd c51 (by decide)
        have hf : seB2 rows dd y i = true := by
          unfold seB2
          rw [hb, decide_eq_true ((am_is i (by omega) y (by omega) dd (by omega)).mp (Int32.not_lt.mp c63))]; rfl
        refine V.iconst (v := nI 1) dX6_guardsAll_66 (by decide) ?_
        refine V.goto (tgt := 71) dX6_guardsAll_67 (by decide) ?_
        refine V.iaddN dX6_guardsAll_71 ?_
        refine V.ist5 dX6_guardsAll_72 (by decide) rfl ?_
        refine V.inN6 dX6_guardsAll_74 (by decide) rfl ?_
        refine V.goto (tgt := 35) dX6_guardsAll_77 (by decide) ?_
        exact V.ls (by simp only [cN, hf, not_true_eq_false, not_false_eq_true, if_true, if_false, decide_true, decide_false, Bool.and_true, Bool.and_false, Bool.true_and, Bool.false_and, Bool.or_true, Bool.or_false, Bool.true_or, Bool.false_or, Bool.not_true, Bool.not_false, and_true, and_false, true_and, false_and, or_true, or_false, true_or, false_or, bIt, bIf, Bool.false_eq_true, reduceCtorEq]) (ih (i + 1) (by omega))
set_option maxRecDepth 20000 in
set_option maxHeartbeats 4000000 in
theorem s6_guardsAll_loop (l : Launch) (d : Nat) (h : MH) (n : Nat) (K : KK) (b : Bool) (th po ba en tt : Int32) (hm0 : h 78 = some (.inr (6, moF b th po ba en tt))) (ha : h 79 = some (kc K)) (col rows dd : Nat) (hcol : col < 12) (hrows : rows < 128) (hdd : dd < 7) : ∀ (r y : Nat), aB (g2B K col rows dd) y = true → y + r = 7 → V l mX6_guardsAll (d + 1) 3 [some (.ref 78), some (.int (nI col)), some (.int (nI rows)), some (.int (nI dd)), some (.int (nI y)), none, none] [] h n 0 0 (Pv (bI (s2B K col rows dd)) h n) := by
  intro r
  induction r with
  | zero =>
    intro y hh hy
    refine V.iload dX6_guardsAll_3 rfl ?_
    refine V.bipush (v := nI 7) dX6_guardsAll_5 (by decide) ?_
    refine V.icmp_geN (tgt := 94) dX6_guardsAll_7 (by decide) (by omega) (by omega) (fun _ => ?_) (fun q => absurd q (by omega))
    refine V.iconst (v := nI 1) dX6_guardsAll_94 (by decide) ?_
    exact V.iretZ (by exact dX6_guardsAll_95) rfl (by rw [s2B, show 7 = y by omega, hh]; rfl) rfl
  | succ r ih =>
    intro y hh hy
    refine V.iload dX6_guardsAll_3 rfl ?_
    refine V.bipush (v := nI 7) dX6_guardsAll_5 (by decide) ?_
    refine V.icmp_geN (tgt := 94) dX6_guardsAll_7 (by decide) (by omega) (by omega) (fun q => absurd q (by omega)) (fun _ => ?_)
    refine V.aload_n dX6_guardsAll_10 rfl ?_
    refine V.getf dX6_guardsAll_11 fl_X6_9 hm0 rfl ?_
    refine V.bipush (v := nI 12) dX6_guardsAll_14 (by decide) ?_
    refine V.iload dX6_guardsAll_16 rfl ?_
    refine V.imulN dX6_guardsAll_18 ?_
    refine V.iload_n dX6_guardsAll_19 rfl ?_
    refine V.iaddN dX6_guardsAll_20 ?_
    refine V.ialdN dX6_guardsAll_21 ha (by omega) (by decide) ?_
    refine V.iconst (v := nI 3) dX6_guardsAll_22 (by decide) ?_
    refine V.icmp_ne (tgt := 29) dX6_guardsAll_23 (by decide) (fun c23 => ?_) (fun c23 => ?_)
    · refine V.iconst (v := nI 0) dX6_guardsAll_29 (by decide) ?_
      refine V.ist5 dX6_guardsAll_30 (by decide) rfl ?_
      refine V.iconst (v := nI 0) dX6_guardsAll_32 (by decide) ?_
      refine V.ist6 dX6_guardsAll_33 (by decide) rfl ?_
      refine s6_guardsAll_in l d h n K b th po ba en tt hm0 ha col rows dd hcol hrows hdd y (by omega) ?_ 7 0 (by omega)
      have hcl := cN_le (seB2 rows dd y) 7
      refine V.iload dX6_guardsAll_80 rfl ?_
      refine V.iconst (v := nI 2) dX6_guardsAll_82 (by decide) ?_
      refine V.icmp_geN (tgt := 88) dX6_guardsAll_83 (by decide) (by omega) (by omega) (fun c83 => ?_) (fun c83 => ?_)
      · refine V.inN4 dX6_guardsAll_88 (by decide) rfl ?_
        refine V.goto (tgt := 3) dX6_guardsAll_91 (by decide) ?_
        exact V.drop 5 (ih (y + 1) (by rw [aB, hh, show g2B K col rows dd y = true by (rw [g2B, decide_eq_true c83]; simp)]; rfl) (by omega))
      · refine V.iconst (v := nI 0) dX6_guardsAll_86 (by decide) ?_
        exact V.iretZ (by exact dX6_guardsAll_87) rfl (by rw [s2B, aB_no (show y < 7 by omega) (by rw [g2B, decide_eq_false c23, decide_eq_false (by omega)]; rfl)]; rfl) rfl
    · refine V.goto (tgt := 88) dX6_guardsAll_26 (by decide) ?_
      refine V.inN4 dX6_guardsAll_88 (by decide) rfl ?_
      refine V.goto (tgt := 3) dX6_guardsAll_91 (by decide) ?_
      exact ih (y + 1) (by rw [aB, hh, show g2B K col rows dd y = true by (rw [g2B, decide_eq_true c23]; rfl)]; rfl) (by omega)
set_option maxRecDepth 20000 in
set_option maxHeartbeats 4000000 in
theorem s6_guardsAll (l : Launch) (d : Nat) (h : MH) (n : Nat) (K : KK) (b : Bool) (th po ba en tt : Int32) (hm0 : h 78 = some (.inr (6, moF b th po ba en tt))) (ha : h 79 = some (kc K)) (col rows dd : Nat) (hcol : col < 12) (hrows : rows < 128) (hdd : dd < 7) : Sp l mX6_guardsAll (d + 1) [.ref 78, .int (nI col), .int (nI rows), .int (nI dd)] h n 0 0 (Pv (bI (s2B K col rows dd)) h n) := by
  show V _ _ _ _ [some (.ref 78), some (.int (nI col)), some (.int (nI rows)), some (.int (nI dd)), none, none, none] _ _ _ _ _ _
  refine V.iconst (v := nI 0) dX6_guardsAll_0 (by decide) ?_
  refine V.ist4 dX6_guardsAll_1 (by decide) rfl ?_
  exact s6_guardsAll_loop l d h n K b th po ba en tt hm0 ha col rows dd hcol hrows hdd 7 0 rfl (by omega)
