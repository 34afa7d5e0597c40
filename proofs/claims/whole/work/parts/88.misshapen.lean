/-- what passStatement does: to be proved -/
def PSt (l : Launch) : Prop := ∀ (d : Nat) (h : MH) (n i N : Nat) (ho kd fg so : Int32) (hN : N ≤ 100) (hsh : h (62 + 2 * i) = some (.inr (3, shF ho kd fg so (nI N) (63 + 2 * i)))) (el : Nat → Int32) (hel : h (63 + 2 * i) = some (ia 100 el)) (B : Nat → Int32) (hB : ∀ k, k < 100 → B k = el k) (p : Nat) (s : Int32) (hp : p < N), Sp l mX1_passStatement (d + 5) [.ref 56] (CR h i p s) n 0 0 (Pv (bI (stR B N p).1) (CR h i (stR B N p).2 s) n)
set_option maxRecDepth 20000 in
set_option maxHeartbeats 4000000 in
theorem s1_mis_end (l : Launch) (d : Nat) (h : MH) (n i N : Nat) (ho kd fg so : Int32) (hN : N ≤ 100) (hsh : h (62 + 2 * i) = some (.inr (3, shF ho kd fg so (nI N) (63 + 2 * i)))) (el : Nat → Int32) (hel : h (63 + 2 * i) = some (ia 100 el)) (B : Nat → Int32) (hB : ∀ k, k < 100 → B k = el k) (p : Nat) (s : Int32) (wl : Bool) (k : Nat) (hk : k ≤ 100) (hp : p < 1000) (hwl : wl = false ∨ N ≤ p) {Q : Option Value → MH → Nat → Prop} (hq : Q (some (.int (if wl = true then -4 else nI p))) (CR h i p s) n) : V l mX1_misshapen d 33 [some (.ref 56), some (.ref (62 + 2 * i)), some (.int (bI wl)), some (.int (nI k))] [] (CR h i p s) n 0 0 Q := by
  have k78 : V l mX1_misshapen d 78 [some (.ref 56), some (.ref (62 + 2 * i)), some (.int (bI wl)), some (.int (nI k))] [] (CR h i p s) n 0 0 Q := by
    refine V.iload_n dX1_misshapen_78 rfl ?_
    refine V.if_eqB (tgt := 87) dX1_misshapen_79 (by decide) (fun y => ?_) (fun y => ?_)
    · rw [y, if_neg (by decide)] at hq
      refine V.aload_n dX1_misshapen_87 rfl ?_
      refine V.getf dX1_misshapen_88 fl_X1_18 (CR_56 _ _ _ _) rfl ?_
      exact V.iret (by exact dX1_misshapen_91) rfl rfl hq
    · rw [y, if_pos rfl] at hq
      refine V.bipush (v := -4) dX1_misshapen_82 (by decide) ?_
      refine V.goto (tgt := 91) dX1_misshapen_84 (by decide) ?_
      exact V.iret (by exact dX1_misshapen_91) rfl rfl hq
  refine V.iload_n dX1_misshapen_33 rfl ?_
  refine V.bipush (v := nI 100) dX1_misshapen_34 (by decide) ?_
  refine V.icmp_geN (tgt := 78) dX1_misshapen_36 (by decide) (by omega) (by omega) (fun _ => k78) (fun _ => ?_)
  refine V.iload_n dX1_misshapen_39 rfl ?_
  refine V.if_eqB (tgt := 78) dX1_misshapen_40 (by decide) (fun _ => k78) (fun y => ?_)
  refine V.aload_n dX1_misshapen_43 rfl ?_
  refine V.getf dX1_misshapen_44 fl_X1_18 (CR_56 _ _ _ _) rfl ?_
  refine V.aload_n dX1_misshapen_47 rfl ?_
  refine V.getf dX1_misshapen_48 fl_X1_12 (CR_56 _ _ _ _) rfl ?_
  refine V.getf dX1_misshapen_51 fl_X1_25 (CR_no hsh (by omega)) rfl ?_
  have hNp : N ≤ p := hwl.elim (fun z => by rw [z] at y; cases y) id
  exact V.icmp_geN (tgt := 78) dX1_misshapen_54 (by decide) (by omega) (by omega) (fun _ => k78) (fun z => absurd z (by omega))
set_option maxRecDepth 20000 in
set_option maxHeartbeats 4000000 in
theorem s1_mis_loop (l : Launch) (d : Nat) (hps : PSt l) (h : MH) (n i N : Nat) (ho kd fg so : Int32) (hN : N ≤ 100) (hsh : h (62 + 2 * i) = some (.inr (3, shF ho kd fg so (nI N) (63 + 2 * i)))) (el : Nat → Int32) (hel : h (63 + 2 * i) = some (ia 100 el)) (B : Nat → Int32) (hB : ∀ k, k < 100 → B k = el k) {Q : Option Value → MH → Nat → Prop} (hb : ∀ p, p < N → (stR B N p).2 < 1000) : ∀ (r p k c : Nat), k ≤ p → p < N → N < p + r → ((txS B N r p).1 = false → ∀ c1, Q (some (.int (nI (txS B N r p).2.1))) (CR h i (txS B N r p).2.1 c1) n) → ((txS B N r p).1 = true → Q (some (.int (-4))) (CR h i (txS B N r p).2.1 (nI (c + (txS B N r p).2.2))) n) → V l mX1_misshapen (d + 6) 33 [some (.ref 56), some (.ref (62 + 2 * i)), some (.int (bI true)), some (.int (nI k))] [] (CR h i p (nI c)) n 0 0 Q := by
  intro r
  induction r with
  | zero => intro p k c _ h1 h2; omega
  | succ r ih =>
    intro p k c hk hp hr kf kt
    refine V.iload_n dX1_misshapen_33 rfl ?_
    refine V.bipush (v := nI 100) dX1_misshapen_34 (by decide) ?_
    refine V.icmp_geN (tgt := 78) dX1_misshapen_36 (by decide) (by omega) (by omega) (fun y => absurd y (by omega)) (fun _ => ?_)
    refine V.iload_n dX1_misshapen_39 rfl ?_
    refine V.if_eqB (tgt := 78) dX1_misshapen_40 (by decide) (fun y => by cases y) (fun _ => ?_)
    refine V.aload_n dX1_misshapen_43 rfl ?_
    refine V.getf dX1_misshapen_44 fl_X1_18 (CR_56 _ _ _ _) rfl ?_
    refine V.aload_n dX1_misshapen_47 rfl ?_
    refine V.getf dX1_misshapen_48 fl_X1_12 (CR_56 _ _ _ _) rfl ?_
    refine V.getf dX1_misshapen_51 fl_X1_25 (CR_no hsh (by omega)) rfl ?_
    refine V.icmp_geN (tgt := 78) dX1_misshapen_54 (by decide) (by omega) (by omega) (fun y => absurd y (by omega)) (fun _ => ?_)
    refine V.aload_n dX1_misshapen_57 rfl ?_
    refine V.callVv [] dX1_misshapen_58 lk_X1_28 rfl (Nat.le_of_ble_eq_true rfl) (Nat.le_of_ble_eq_true rfl) (CR_56 _ _ _ _) rfl (hps _ h n i N ho kd fg so hN hsh el hel B hB p _ hp) ?_
    refine V.ist2 dX1_misshapen_61 (by decide) rfl ?_
    refine V.aload_n dX1_misshapen_62 rfl ?_
    refine V.dup dX1_misshapen_63 rfl ?_
    refine V.getf dX1_misshapen_64 fl_X1_22 (CR_56 _ _ _ _) rfl ?_
    refine V.iconst (v := nI 1) dX1_misshapen_67 (by decide) ?_
    refine V.iaddN dX1_misshapen_68 ?_
    refine V.putf dX1_misshapen_69 fp_X1_22 (CR_56 _ _ _ _) (Nat.le_of_ble_eq_true rfl) (fun _ => ⟨rfl, rfl⟩) ?_
    change V _ _ _ _ _ _ (hset (CR h i (stR B N p).2 (nI c)) 56 (.inr (1, [.ref (62 + 2 * i), .int (nI (stR B N p).2), .int (nI (c + 1))]))) _ _ _ _
    rw [CR_s]
    refine V.inN3 dX1_misshapen_72 (by decide) rfl ?_
    refine V.goto (tgt := 33) dX1_misshapen_75 (by decide) ?_
    have hb2 := hb p hp
    rw [txS] at kf kt
    cases ok : (stR B N p).1 with
    | false =>
      rw [ok, if_neg (by decide)] at kf
      exact s1_mis_end l _ h n i N ho kd fg so hN hsh el hel B hB _ _ false (k + 1) (by omega) hb2 (Or.inl rfl) (kf rfl _)
    | true =>
      rw [ok, if_pos rfl] at kf kt
      have b1 := (stR_pp ok).1.1
      by_cases y : (stR B N p).2 < N
      · rw [if_pos y] at kf kt
        refine ih _ (k + 1) (c + 1) (by omega) y (by omega) kf (fun z => ?_)
        rw [show c + 1 + (txS B N r (stR B N p).2).2.2 = c + ((txS B N r (stR B N p).2).2.2 + 1) by omega]
        exact kt z
      · rw [if_neg y] at kt
        exact s1_mis_end l _ h n i N ho kd fg so hN hsh el hel B hB _ _ true (k + 1) (by omega) hb2 (Or.inr (by omega)) (kt rfl)
theorem run_b {B : Nat → Int32} {N : Nat} {k : Nat → Bool × Nat} {M : Nat} (hk : ∀ q, q ≤ M → (k q).2 ≤ M + 10) : ∀ (l : List (Nat × Nat)) (p : Nat), p + l.length ≤ M → (run B N l p k).2 ≤ M + 10 := by
  intro l
  induction l with
  | nil => intro p h; exact hk p (by simpa using h)
  | cons a r ih =>
    intro p h
    rw [List.length_cons] at h
    rw [run]
    split
    · exact ih (p + 1) (by omega)
    · show p ≤ M + 10; omega
theorem run_x {B : Nat → Int32} {N : Nat} : ∀ (l : List (Nat × Nat)) (p : Nat), (run B N l p fin1).2 ≤ p + l.length := by
  intro l
  induction l with
  | nil => intro p; exact Nat.le_refl p
  | cons a r ih =>
    intro p
    rw [run, List.length_cons]
    split
    · have := ih (p + 1); omega
    · show p ≤ p + (r.length + 1); omega
theorem stR_b {B : Nat → Int32} {N p : Nat} (hp : p < 200) : (stR B N p).2 < 1000 := by
  have f1 : ∀ M q, q ≤ M → (fin1 q).2 ≤ M + 10 := fun M q h => by show q ≤ M + 10; omega
  have nm : nmP B N (p + 1) ≤ p + 4 := by unfold nmP; split <;> (try split) <;> (try split) <;> (try split) <;> omega
  unfold stR
  split
  · have := run_b (B := B) (N := N) (M := 300) (k := fun q => if inB B N q 97 108 = true then run B N [(97, 108), (48, 54), (59, 59)] q fin1 else run B N [(59, 59)] q fin1) (fun q hq => by
      have ex : ∀ l : List (Nat × Nat), l.length ≤ 3 → (run B N l q fin1).2 ≤ q + l.length := fun l _ => run_x l q
      have a := ex [(97, 108), (48, 54), (59, 59)] (by simp)
      have b := ex [(59, 59)] (by simp)
      simp only [List.length_cons, List.length_nil] at a b
      split <;> omega) [(48, 57), (97, 108), (48, 54)] (p + 1) (by simp; omega)
    omega
  · split
    · have := run_b (B := B) (N := N) (M := 300) (f1 300) [(48, 57), (59, 59)] (p + 1) (by simp; omega)
      omega
    · split
      · split
        · have := run_b (B := B) (N := N) (M := 300) (f1 300) [(59, 59)] (nmP B N (p + 1)) (by simp; omega)
          omega
        · show p + 1 < 1000; omega
      · split
        · have := run_b (B := B) (N := N) (M := 300) (f1 300) [(48, 57), (48, 57), (48, 57), (97, 108), (48, 54), (59, 59)] (p + 1) (by simp; omega)
          omega
        · split
          · have := run_b (B := B) (N := N) (M := 300) (f1 300) [(48, 57), (48, 57), (48, 57), (48, 57), (59, 59)] (p + 1) (by simp; omega)
            omega
          · show p < 1000; omega
set_option maxRecDepth 20000 in
set_option maxHeartbeats 4000000 in
theorem s1_misshapen (l : Launch) (d : Nat) (hps : PSt l) (h : MH) (n i N : Nat) (ho kd fg so : Int32) (hN : N ≤ 100) (hsh : h (62 + 2 * i) = some (.inr (3, shF ho kd fg so (nI N) (63 + 2 * i)))) (el : Nat → Int32) (hel : h (63 + 2 * i) = some (ia 100 el)) (B : Nat → Int32) (hB : ∀ k, k < 100 → B k = el k) {Q : Option Value → MH → Nat → Prop} (i8 : i < 8) (rb : Nat) (rx ry : Int32) (hrd : h 56 = some (.inr (1, [.ref rb, .int rx, .int ry]))) (kf : (txS B N 101 0).1 = false → ∀ c1, Q (some (.int (nI (txS B N 101 0).2.1))) (CR h i (txS B N 101 0).2.1 c1) n) (kt : (txS B N 101 0).1 = true → Q (some (.int (-4))) (CR h i (txS B N 101 0).2.1 (nI (txS B N 101 0).2.2)) n) : Sp l mX1_misshapen (d + 6) [.ref 56, .ref (62 + 2 * i)] h n 0 0 Q := by
  show V _ _ _ _ [some (.ref 56), some (.ref (62 + 2 * i)), none, none] _ _ _ _ _ _
  refine V.aload_n dX1_misshapen_0 rfl ?_
  refine V.aload_n dX1_misshapen_1 rfl ?_
  refine V.putf dX1_misshapen_2 fp_X1_12 hrd (Nat.le_of_ble_eq_true rfl) (fun _ => ⟨rfl, rfl⟩) ?_
  refine V.aload_n dX1_misshapen_5 rfl ?_
  refine V.iconst (v := nI 0) dX1_misshapen_6 (by decide) ?_
  refine V.putf dX1_misshapen_7 fp_X1_18 (hset_self _ _ _) (Nat.le_of_ble_eq_true rfl) (fun _ => ⟨rfl, rfl⟩) ?_
  rw [hset_hset]
  refine V.aload_n dX1_misshapen_10 rfl ?_
  refine V.iconst (v := nI 0) dX1_misshapen_11 (by decide) ?_
  refine V.putf dX1_misshapen_12 fp_X1_22 (hset_self _ _ _) (Nat.le_of_ble_eq_true rfl) (fun _ => ⟨rfl, rfl⟩) ?_
  rw [hset_hset]
  change V _ _ _ _ _ _ (CR h i 0 (nI 0)) _ _ _ _
  refine V.aload_n dX1_misshapen_15 rfl ?_
  refine V.getf dX1_misshapen_16 fl_X1_12 (CR_56 _ _ _ _) rfl ?_
  refine V.getf dX1_misshapen_19 fl_X1_25 (CR_no hsh (by omega)) rfl ?_
  refine V.if_le (tgt := 29) dX1_misshapen_22 (by decide) (fun y => ?_) (fun y => ?_)
  · have y0 : N = 0 := Nat.le_zero.mp ((nI_leI (a := N) (b := 0) (by omega) (by omega)).mp y)
    refine V.iconst (v := nI 0) dX1_misshapen_29 (by decide) ?_
    refine V.ist2 dX1_misshapen_30 (by decide) rfl ?_
    refine V.iconst (v := nI 0) dX1_misshapen_31 (by decide) ?_
    refine V.ist3 dX1_misshapen_32 (by decide) rfl ?_
    have e : stR B N 0 = (false, 0) := by
      have hl : ltr B N 0 = 0 := by rw [ltr, if_neg (by omega)]
      rw [stR, hl]; rfl
    have e2 : txS B N 101 0 = (false, 0, 0) := by rw [txS, e]; rfl
    rw [e2] at kf
    exact s1_mis_end l _ h n i N ho kd fg so hN hsh el hel B hB 0 (nI 0) false 0 (by omega) (by omega) (Or.inl rfl) (kf rfl _)
  · have y0 : 0 < N := Nat.pos_of_ne_zero (fun z => y (by rw [z]; exact Int32.le_refl _))
    refine V.iconst (v := nI 1) dX1_misshapen_25 (by decide) ?_
    refine V.goto (tgt := 30) dX1_misshapen_26 (by decide) ?_
    refine V.ist2 dX1_misshapen_30 (by decide) rfl ?_
    refine V.iconst (v := nI 0) dX1_misshapen_31 (by decide) ?_
    refine V.ist3 dX1_misshapen_32 (by decide) rfl ?_
    exact s1_mis_loop l d hps h n i N ho kd fg so hN hsh el hel B hB (fun p hp => stR_b (by omega)) 101 0 0 0 (by omega) y0 (by omega) kf (fun z => by rw [Nat.zero_add]; exact kt z)
