set_option maxRecDepth 20000 in
set_option maxHeartbeats 4000000 in
theorem s1_digit (l : Launch) (d : Nat) (h : MH) (n i N : Nat) (ho kd fg so : Int32) (hN : N ≤ 100) (hsh : h (62 + 2 * i) = some (.inr (3, shF ho kd fg so (nI N) (63 + 2 * i)))) (el : Nat → Int32) (hel : h (63 + 2 * i) = some (ia 100 el)) (B : Nat → Int32) (hB : ∀ k, k < 100 → B k = el k) (p : Nat) (s : Int32) (a v : Nat) (ha : a < N) (e : B a = nI (48 + v)) : Sp l mX1_digit (d + 2) [.ref 56, .int (nI a)] (CR h i p s) n 0 0 (Pv (nI v) (CR h i p s) n) := by
  show V _ _ _ _ [some (.ref 56), some (.int (nI a))] _ _ _ _ _ _
  refine V.aload_n dX1_digit_0 rfl ?_
  refine V.iload_n dX1_digit_1 rfl ?_
  refine V.callVv [_] dX1_digit_2 lk_X1_32 rfl (Nat.le_of_ble_eq_true rfl) (Nat.le_of_ble_eq_true rfl) (CR_56 _ _ _ _) rfl (s1_byteAt l _ h n i N ho kd fg so hN hsh el hel B hB p s a ha) ?_
  rw [e]
  refine V.bipush (v := nI 48) dX1_digit_5 (by decide) ?_
  refine V.isubN dX1_digit_7 (by omega) ?_
  rw [show 48 + v - 48 = v by omega]
  exact V.iret (by exact dX1_digit_8) rfl rfl ⟨rfl, rfl, rfl⟩
set_option maxRecDepth 20000 in
set_option maxHeartbeats 4000000 in
theorem s1_cell0 (l : Launch) (d : Nat) (h : MH) (n i N : Nat) (ho kd fg so : Int32) (hN : N ≤ 100) (hsh : h (62 + 2 * i) = some (.inr (3, shF ho kd fg so (nI N) (63 + 2 * i)))) (el : Nat → Int32) (hel : h (63 + 2 * i) = some (ia 100 el)) (B : Nat → Int32) (hB : ∀ k, k < 100 → B k = el k) (p : Nat) (s : Int32) (a u v : Nat) (ha : a + 1 < N) (e1 : B a = nI (97 + u)) (e2 : B (a + 1) = nI (48 + v)) : Sp l mX1_cell (d + 3) [.ref 56, .int (nI a)] (CR h i p s) n 0 0 (Pv (nI (12 * v + u)) (CR h i p s) n) := by
  show V _ _ _ _ [some (.ref 56), some (.int (nI a))] _ _ _ _ _ _
  refine V.bipush (v := nI 12) dX1_cell_0 (by decide) ?_
  refine V.aload_n dX1_cell_2 rfl ?_
  refine V.iload_n dX1_cell_3 rfl ?_
  refine V.iconst (v := nI 1) dX1_cell_4 (by decide) ?_
  refine V.iaddN dX1_cell_5 ?_
  refine V.callVv [_] dX1_cell_6 lk_X1_84 rfl (Nat.le_of_ble_eq_true rfl) (Nat.le_of_ble_eq_true rfl) (CR_56 _ _ _ _) rfl (s1_digit l _ h n i N ho kd fg so hN hsh el hel B hB p s (a + 1) v ha e2) ?_
  refine V.imulN dX1_cell_9 ?_
  refine V.aload_n dX1_cell_10 rfl ?_
  refine V.iload_n dX1_cell_11 rfl ?_
  refine V.callVv [_] dX1_cell_12 lk_X1_32 rfl (Nat.le_of_ble_eq_true rfl) (Nat.le_of_ble_eq_true rfl) (CR_56 _ _ _ _) rfl (s1_byteAt l _ h n i N ho kd fg so hN hsh el hel B hB p s a (by omega)) ?_
  rw [e1]
  refine V.iaddN dX1_cell_15 ?_
  refine V.bipush (v := nI 97) dX1_cell_16 (by decide) ?_
  refine V.isubN dX1_cell_18 (by omega) ?_
  rw [show 12 * v + (97 + u) - 97 = 12 * v + u by omega]
  exact V.iret (by exact dX1_cell_19) rfl rfl ⟨rfl, rfl, rfl⟩
theorem s1_cell (l : Launch) (d : Nat) (h : MH) (n i N : Nat) (ho kd fg so : Int32) (hN : N ≤ 100) (hsh : h (62 + 2 * i) = some (.inr (3, shF ho kd fg so (nI N) (63 + 2 * i)))) (el : Nat → Int32) (hel : h (63 + 2 * i) = some (ia 100 el)) (B : Nat → Int32) (hB : ∀ k, k < 100 → B k = el k) (p : Nat) (s : Int32) (a : Nat) (hc : clO B N a = true) : Sp l mX1_cell (d + 3) [.ref 56, .int (nI a)] (CR h i p s) n 0 0 (Pv (nI (ce B a)) (CR h i p s) n) := by
  rw [clO, Bool.and_eq_true] at hc
  have a1 := inB_ex (by omega) (by omega) hc.1
  have a2 := inB_ex (by omega) (by omega) hc.2
  exact s1_cell0 l d h n i N ho kd fg so hN hsh el hel B hB p s a _ _ (by omega) a1.2.2.1 a2.2.2.1
theorem s1_dig (l : Launch) (d : Nat) (h : MH) (n i N : Nat) (ho kd fg so : Int32) (hN : N ≤ 100) (hsh : h (62 + 2 * i) = some (.inr (3, shF ho kd fg so (nI N) (63 + 2 * i)))) (el : Nat → Int32) (hel : h (63 + 2 * i) = some (ia 100 el)) (B : Nat → Int32) (hB : ∀ k, k < 100 → B k = el k) (p : Nat) (s : Int32) (a : Nat) (hc : inB B N a 48 57 = true) : Sp l mX1_digit (d + 2) [.ref 56, .int (nI a)] (CR h i p s) n 0 0 (Pv (nI (dgt B 48 a)) (CR h i p s) n) := by
  have a1 := inB_ex (by omega) (by omega) hc
  exact s1_digit l d h n i N ho kd fg so hN hsh el hel B hB p s a _ (by omega) a1.2.2.1
set_option maxRecDepth 20000 in
set_option maxHeartbeats 4000000 in
theorem s1_number_loop (l : Launch) (d : Nat) (h : MH) (n i N : Nat) (ho kd fg so : Int32) (hN : N ≤ 100) (hsh : h (62 + 2 * i) = some (.inr (3, shF ho kd fg so (nI N) (63 + 2 * i)))) (el : Nat → Int32) (hel : h (63 + 2 * i) = some (ia 100 el)) (B : Nat → Int32) (hB : ∀ k, k < 100 → B k = el k) (p : Nat) (s : Int32) (a m : Nat) (hm : a + m < 1000) (hd : ∀ k, k < m → inB B N (a + k) 48 57 = true) : ∀ r k, k + r = m → V l mX1_number (d + 3) 5 [some (.ref 56), some (.int (nI a)), some (.int (nI (a + m))), some (.int (nI (nuV B a k))), some (.int (nI (a + k)))] [] (CR h i p s) n 0 0 (Pv (nI (nuV B a m)) (CR h i p s) n) := by
  intro r
  induction r with
  | zero =>
    intro k hk
    refine V.iload dX1_number_5 rfl ?_
    refine V.iload_n dX1_number_7 rfl ?_
    refine V.icmp_geN (tgt := 29) dX1_number_8 (by decide) (by omega) (by omega) (fun _ => ?_) (fun q => absurd q (by omega))
    rw [show k = m by omega]
    refine V.iload_n dX1_number_29 rfl ?_
    exact V.iret (by exact dX1_number_30) rfl rfl ⟨rfl, rfl, rfl⟩
  | succ r ih =>
    intro k hk
    refine V.iload dX1_number_5 rfl ?_
    refine V.iload_n dX1_number_7 rfl ?_
    refine V.icmp_geN (tgt := 29) dX1_number_8 (by decide) (by omega) (by omega) (fun q => absurd q (by omega)) (fun _ => ?_)
    refine V.bipush (v := nI 10) dX1_number_11 (by decide) ?_
    refine V.iload_n dX1_number_13 rfl ?_
    refine V.imulN dX1_number_14 ?_
    refine V.aload_n dX1_number_15 rfl ?_
    refine V.iload dX1_number_16 rfl ?_
    refine V.callVv [_] dX1_number_18 lk_X1_84 rfl (Nat.le_of_ble_eq_true rfl) (Nat.le_of_ble_eq_true rfl) (CR_56 _ _ _ _) rfl (s1_dig l _ h n i N ho kd fg so hN hsh el hel B hB p s (a + k) (hd k (by omega))) ?_
    refine V.iaddN dX1_number_21 ?_
    refine V.ist3 dX1_number_22 (by decide) rfl ?_
    refine V.inN4 dX1_number_23 (by decide) rfl ?_
    refine V.goto (tgt := 5) dX1_number_26 (by decide) ?_
    exact ih (k + 1) (by omega)
set_option maxRecDepth 20000 in
set_option maxHeartbeats 4000000 in
theorem s1_number (l : Launch) (d : Nat) (h : MH) (n i N : Nat) (ho kd fg so : Int32) (hN : N ≤ 100) (hsh : h (62 + 2 * i) = some (.inr (3, shF ho kd fg so (nI N) (63 + 2 * i)))) (el : Nat → Int32) (hel : h (63 + 2 * i) = some (ia 100 el)) (B : Nat → Int32) (hB : ∀ k, k < 100 → B k = el k) (p : Nat) (s : Int32) (a m : Nat) (hm : a + m < 1000) (hd : ∀ k, k < m → inB B N (a + k) 48 57 = true) : Sp l mX1_number (d + 3) [.ref 56, .int (nI a), .int (nI (a + m))] (CR h i p s) n 0 0 (Pv (nI (nuV B a m)) (CR h i p s) n) := by
  show V _ _ _ _ [some (.ref 56), some (.int (nI a)), some (.int (nI (a + m))), none, none] _ _ _ _ _ _
  refine V.iconst (v := nI 0) dX1_number_0 (by decide) ?_
  refine V.ist3 dX1_number_1 (by decide) rfl ?_
  refine V.iload_n dX1_number_2 rfl ?_
  refine V.ist4 dX1_number_3 (by decide) rfl ?_
  exact s1_number_loop l d h n i N ho kd fg so hN hsh el hel B hB p s a m hm hd m 0 (by omega)
theorem run_t {B : Nat → Int32} {N p lo hi : Nat} {r : List (Nat × Nat)} {k : Nat → Bool × Nat} (h : (run B N ((lo, hi) :: r) p k).1 = true) : inB B N p lo hi = true ∧ (run B N r (p + 1) k).1 = true ∧ (run B N ((lo, hi) :: r) p k).2 = (run B N r (p + 1) k).2 := by
  cases q : inB B N p lo hi with
  | false => rw [run_n q] at h; cases h
  | true => rw [run_y q] at h ⊢; exact ⟨rfl, h, rfl⟩
theorem nm_in {B : Nat → Int32} {N p : Nat} (h : inB B N p 48 57 = true) : ∀ j, p ≤ j → j < nmP B N p → inB B N j 48 57 = true := by
  intro j h1 h2
  rw [nmP, if_pos h] at h2
  have one : j = p → inB B N j 48 57 = true := fun y => by rw [y]; exact h
  split at h2
  · exact one (by omega)
  · split at h2
    · next y =>
      split at h2
      · next z =>
        rcases (show j = p ∨ j = p + 1 ∨ j = p + 2 by omega) with w | w | w
        · exact one w
        · rw [w]; exact y
        · rw [w]; exact z
      · rcases (show j = p ∨ j = p + 1 by omega) with w | w
        · exact one w
        · rw [w]; exact y
    · exact one (by omega)
/-- what stands in a statement -/
def Din (B : Nat → Int32) (N c p e : Nat) : Prop := inB B N (p + 1) 48 57 = true ∧ (c = 103 → clO B N (p + 2) = true ∧ clO B N (e - 3) = true ∧ p + 5 ≤ e) ∧ (c = 112 → inB B N (p + 2) 48 57 = true ∧ inB B N (p + 3) 48 57 = true ∧ clO B N (p + 4) = true) ∧ (c = 99 → inB B N (p + 2) 48 57 = true ∧ inB B N (p + 3) 48 57 = true ∧ inB B N (p + 4) 48 57 = true) ∧ (c = 116 ∨ c = 104 → e = nmP B N (p + 1) + 1)
theorem stR_din {B : Nat → Int32} {N p : Nat} (h : (stR B N p).1 = true) : Din B N (ltr B N p) p (stR B N p).2 := by
  obtain ⟨-, hl⟩ := stR_pp h
  have mk : ∀ a b : Bool, a = true → b = true → (a && b) = true := fun a b x y => by rw [x, y]; rfl
  generalize hc : ltr B N p = c at hl ⊢
  rcases hl with rfl | hl | hl | hl | hl | hl | hl | rfl | rfl
  · have e : stR B N p = run B N [(48, 57), (97, 108), (48, 54)] (p + 1) (fun q => if inB B N q 97 108 = true then run B N [(97, 108), (48, 54), (59, 59)] q fin1 else run B N [(59, 59)] q fin1) := by rw [stR, hc]; rfl
    rw [e] at h ⊢
    obtain ⟨a1, h, e1⟩ := run_t h
    obtain ⟨a2, h, e2⟩ := run_t h
    obtain ⟨a3, h, e3⟩ := run_t h
    rw [e1, e2, e3]
    rw [run_0] at h ⊢
    have c1 : clO B N (p + 1 + 1) = true := mk _ _ a2 a3
    refine ⟨a1, fun _ => ?_, fun y => absurd y (by decide), fun y => absurd y (by decide), fun y => absurd y (by decide)⟩
    split at h
    · next y =>
      rw [if_pos y]
      obtain ⟨a4, h, e4⟩ := run_t h
      obtain ⟨a5, h, e5⟩ := run_t h
      obtain ⟨a6, h, e6⟩ := run_t h
      rw [e4, e5, e6]
      exact ⟨c1, mk _ _ a4 a5, by show p + 5 ≤ p + 1 + 1 + 1 + 1 + 1 + 1 + 1; omega⟩
    · next y =>
      rw [if_neg y]
      obtain ⟨a6, h, e6⟩ := run_t h
      rw [e6]
      exact ⟨c1, c1, Nat.le_refl _⟩
  · subst hl
    have e : stR B N p = run B N [(48, 57), (59, 59)] (p + 1) fin1 := by rw [stR, hc]; rfl
    rw [e] at h
    obtain ⟨a1, -, -⟩ := run_t h
    exact ⟨a1, fun y => absurd y (by decide), fun y => absurd y (by decide), fun y => absurd y (by decide), fun y => absurd y (by decide)⟩
  · subst hl
    have e : stR B N p = run B N [(48, 57), (59, 59)] (p + 1) fin1 := by rw [stR, hc]; rfl
    rw [e] at h
    obtain ⟨a1, -, -⟩ := run_t h
    exact ⟨a1, fun y => absurd y (by decide), fun y => absurd y (by decide), fun y => absurd y (by decide), fun y => absurd y (by decide)⟩
  · subst hl
    have e : stR B N p = run B N [(48, 57), (59, 59)] (p + 1) fin1 := by rw [stR, hc]; rfl
    rw [e] at h
    obtain ⟨a1, -, -⟩ := run_t h
    exact ⟨a1, fun y => absurd y (by decide), fun y => absurd y (by decide), fun y => absurd y (by decide), fun y => absurd y (by decide)⟩
  · subst hl
    have e : stR B N p = run B N [(48, 57), (59, 59)] (p + 1) fin1 := by rw [stR, hc]; rfl
    rw [e] at h
    obtain ⟨a1, -, -⟩ := run_t h
    exact ⟨a1, fun y => absurd y (by decide), fun y => absurd y (by decide), fun y => absurd y (by decide), fun y => absurd y (by decide)⟩
  · subst hl
    have e : stR B N p = (if inB B N (p + 1) 48 57 = true then run B N [(59, 59)] (nmP B N (p + 1)) fin1 else (false, p + 1)) := by rw [stR, hc]; rfl
    rw [e] at h ⊢
    split at h
    · next y =>
      rw [if_pos y]
      obtain ⟨a1, -, e1⟩ := run_t h
      exact ⟨y, fun y => absurd y (by decide), fun y => absurd y (by decide), fun y => absurd y (by decide), fun _ => e1⟩
    · cases h
  · subst hl
    have e : stR B N p = (if inB B N (p + 1) 48 57 = true then run B N [(59, 59)] (nmP B N (p + 1)) fin1 else (false, p + 1)) := by rw [stR, hc]; rfl
    rw [e] at h ⊢
    split at h
    · next y =>
      rw [if_pos y]
      obtain ⟨a1, -, e1⟩ := run_t h
      exact ⟨y, fun y => absurd y (by decide), fun y => absurd y (by decide), fun y => absurd y (by decide), fun _ => e1⟩
    · cases h
  · have e : stR B N p = run B N [(48, 57), (48, 57), (48, 57), (97, 108), (48, 54), (59, 59)] (p + 1) fin1 := by rw [stR, hc]; rfl
    rw [e] at h
    obtain ⟨a1, h, -⟩ := run_t h
    obtain ⟨a2, h, -⟩ := run_t h
    obtain ⟨a3, h, -⟩ := run_t h
    obtain ⟨a4, h, -⟩ := run_t h
    obtain ⟨a5, h, -⟩ := run_t h
    exact ⟨a1, fun y => absurd y (by decide), fun _ => ⟨a2, a3, mk _ _ a4 a5⟩, fun y => absurd y (by decide), fun y => absurd y (by decide)⟩
  · have e : stR B N p = run B N [(48, 57), (48, 57), (48, 57), (48, 57), (59, 59)] (p + 1) fin1 := by rw [stR, hc]; rfl
    rw [e] at h
    obtain ⟨a1, h, -⟩ := run_t h
    obtain ⟨a2, h, -⟩ := run_t h
    obtain ⟨a3, h, -⟩ := run_t h
    obtain ⟨a4, h, -⟩ := run_t h
    exact ⟨a1, fun y => absurd y (by decide), fun y => absurd y (by decide), fun _ => ⟨a2, a3, a4⟩, fun y => absurd y (by decide)⟩
