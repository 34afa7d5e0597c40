/-- the class's reader, reading a shelf: its place, its statements -/
def CR (h : MH) (i p : Nat) (s : Int32) : MH := hset h 56 (.inr (1, [.ref (62 + 2 * i), .int (nI p), .int s]))
theorem CR_56 (h : MH) (i p : Nat) (s : Int32) : CR h i p s 56 = some (.inr (1, [.ref (62 + 2 * i), .int (nI p), .int s])) := hset_self _ _ _
theorem CR_no {h : MH} {i p : Nat} {s : Int32} {q : Nat} {x : MC} (hx : h q = some x) (hq : q ≠ 56) : CR h i p s q = some x := o_ne hx hq
theorem CR_s (h : MH) (i p : Nat) (s : Int32) (p1 : Nat) (s1 : Int32) : hset (CR h i p s) 56 (.inr (1, [.ref (62 + 2 * i), .int (nI p1), .int s1])) = CR h i p1 s1 := hset_hset _ _ _ _
theorem hp_in {N a : Nat} (hN : N ≤ 100) (ha : a < N) : (!decide (nI a < 0) && (!decide (nI N < nI a) && (!decide (nI 1 < 0) && !decide (nI N - nI a < nI 1)))) = true := by
  rw [pk_sub (show a ≤ N by omega), decide_eq_false (nI_pos (show a < 2 ^ 31 by omega)), decide_eq_false (show ¬ nI N < nI a from fun q => absurd ((nI_ltI (by omega) (by omega)).mp q) (by omega)), decide_eq_false (nI_pos (show 1 < 2 ^ 31 by omega)), decide_eq_false (show ¬ nI (N - a) < nI 1 from fun q => absurd ((nI_ltI (by omega) (by omega)).mp q) (by omega))]
  rfl
set_option maxRecDepth 20000 in
set_option maxHeartbeats 4000000 in
theorem s1_byteAt (l : Launch) (d : Nat) (h : MH) (n i N : Nat) (ho kd fg so : Int32) (hN : N ≤ 100) (hsh : h (62 + 2 * i) = some (.inr (3, shF ho kd fg so (nI N) (63 + 2 * i)))) (el : Nat → Int32) (hel : h (63 + 2 * i) = some (ia 100 el)) (B : Nat → Int32) (hB : ∀ k, k < 100 → B k = el k) (p : Nat) (s : Int32) (a : Nat) (ha : a < N) : Sp l mX1_byteAt (d + 1) [.ref 56, .int (nI a)] (CR h i p s) n 0 0 (Pv (B a) (CR h i p s) n) := by
  show V _ _ _ _ [some (.ref 56), some (.int (nI a))] _ _ _ _ _ _
  refine V.aload_n dX1_byteAt_0 rfl ?_
  refine V.getf dX1_byteAt_1 fl_X1_12 (CR_56 _ _ _ _) rfl ?_
  refine V.iload_n dX1_byteAt_4 rfl ?_
  refine V.iconst (v := nI 1) dX1_byteAt_5 (by decide) ?_
  refine V.callVv [_, _] dX1_byteAt_6 lk_X1_112 rfl (Nat.le_of_ble_eq_true rfl) (Nat.le_of_ble_eq_true rfl) (CR_no hsh (by omega)) rfl (s3_hasPlaces _ _ _ _ _ _ _ _ _ _ _ (CR_no hsh (by omega)) _ _) ?_
  rw [hp_in hN ha]
  refine V.if_eqB (tgt := 24) dX1_byteAt_9 (by decide) (fun q => absurd q (by decide)) (fun _ => ?_)
  refine V.aload_n dX1_byteAt_12 rfl ?_
  refine V.getf dX1_byteAt_13 fl_X1_12 (CR_56 _ _ _ _) rfl ?_
  refine V.getf dX1_byteAt_16 fl_X1_115 (CR_no hsh (by omega)) rfl ?_
  refine V.iload_n dX1_byteAt_19 rfl ?_
  refine V.ialdN dX1_byteAt_20 (CR_no hel (by omega)) (by omega) (by decide) ?_
  rw [← hB a (by omega)]
  refine V.goto (tgt := 25) dX1_byteAt_21 (by decide) ?_
  exact V.iret (by exact dX1_byteAt_25) rfl rfl ⟨rfl, rfl, rfl⟩
set_option maxRecDepth 20000 in
set_option maxHeartbeats 4000000 in
theorem s1_pass (l : Launch) (d : Nat) (h : MH) (n i N : Nat) (ho kd fg so : Int32) (hN : N ≤ 100) (hsh : h (62 + 2 * i) = some (.inr (3, shF ho kd fg so (nI N) (63 + 2 * i)))) (el : Nat → Int32) (hel : h (63 + 2 * i) = some (ia 100 el)) (B : Nat → Int32) (hB : ∀ k, k < 100 → B k = el k) (p : Nat) (s : Int32) (hp : p < 1000) (lo hj : Nat) : Sp l mX1_pass (d + 2) [.ref 56, .int (nI lo), .int (nI hj)] (CR h i p s) n 0 0 (Pv (bI (inB B N p lo hj)) (CR h i (if inB B N p lo hj = true then p + 1 else p) s) n) := by
  show V _ _ _ _ [some (.ref 56), some (.int (nI lo)), some (.int (nI hj))] _ _ _ _ _ _
  refine V.aload_n dX1_pass_0 rfl ?_
  refine V.getf dX1_pass_1 fl_X1_18 (CR_56 _ _ _ _) rfl ?_
  refine V.aload_n dX1_pass_4 rfl ?_
  refine V.getf dX1_pass_5 fl_X1_12 (CR_56 _ _ _ _) rfl ?_
  refine V.getf dX1_pass_8 fl_X1_25 (CR_no hsh (by omega)) rfl ?_
  have no : inB B N p lo hj = false → V l mX1_pass (d + 2) 30 [some (.ref 56), some (.int (nI lo)), some (.int (nI hj))] [] (CR h i p s) n 0 0 (Pv (bI (inB B N p lo hj)) (CR h i (if inB B N p lo hj = true then p + 1 else p) s) n) := fun e => by
    rw [e, if_neg (by decide)]
    refine V.iconst (v := nI 0) dX1_pass_30 (by decide) ?_
    exact V.iret (by exact dX1_pass_31) rfl (bI_narrow false) ⟨rfl, rfl, rfl⟩
  refine V.icmp_geN (tgt := 30) dX1_pass_11 (by decide) (by omega) (by omega) (fun q => no (by rw [inB, decide_eq_false (by omega)]; rfl)) (fun q => ?_)
  refine V.aload_n dX1_pass_14 rfl ?_
  refine V.aload_n dX1_pass_15 rfl ?_
  refine V.getf dX1_pass_16 fl_X1_18 (CR_56 _ _ _ _) rfl ?_
  refine V.callVv [_] dX1_pass_19 lk_X1_32 rfl (Nat.le_of_ble_eq_true rfl) (Nat.le_of_ble_eq_true rfl) (CR_56 _ _ _ _) rfl (s1_byteAt l _ h n i N ho kd fg so hN hsh el hel B hB p s p q) ?_
  refine V.iload_n dX1_pass_22 rfl ?_
  refine V.iload_n dX1_pass_23 rfl ?_
  refine V.callSv [_, _, _] dX1_pass_24 lk_X1_76 rfl (Nat.le_of_ble_eq_true rfl) (Nat.le_of_ble_eq_true rfl) (s5_within _ _ _ _ _ _ _) ?_
  have hin : inB B N p lo hj = wi (B p) (nI lo) (nI hj) := by rw [inB, decide_eq_true q, Bool.true_and]
  refine V.if_neB (tgt := 32) dX1_pass_27 (by decide) (fun y => ?_) (fun y => no (by rw [hin, y]))
  rw [hin, y, if_pos rfl]
  refine V.aload_n dX1_pass_32 rfl ?_
  refine V.dup dX1_pass_33 rfl ?_
  refine V.getf dX1_pass_34 fl_X1_18 (CR_56 _ _ _ _) rfl ?_
  refine V.iconst (v := nI 1) dX1_pass_37 (by decide) ?_
  refine V.iaddN dX1_pass_38 ?_
  refine V.putf dX1_pass_39 fp_X1_18 (CR_56 _ _ _ _) (Nat.le_of_ble_eq_true rfl) (fun _ => ⟨rfl, rfl⟩) ?_
  change V _ _ _ _ _ _ (hset (CR h i p s) 56 (.inr (1, [.ref (62 + 2 * i), .int (nI (p + 1)), .int s]))) _ _ _ _
  rw [CR_s]
  refine V.iconst (v := nI 1) dX1_pass_42 (by decide) ?_
  exact V.iret (by exact dX1_pass_43) rfl (bI_narrow true) ⟨rfl, rfl, rfl⟩
theorem in_00 {B : Nat → Int32} {N p : Nat} (h : inB B N p 48 48 = true) : inB B N p 48 57 = true ∧ dgt B 48 p = 0 := by
  have a := inB_ex (by omega) (by omega) h
  have e : dgt B 48 p = 0 := by omega
  refine ⟨?_, e⟩
  rw [inB, decide_eq_true a.1, a.2.2.1, e]
  decide
theorem in_19 {B : Nat → Int32} {N p : Nat} (h : inB B N p 49 57 = true) : inB B N p 48 57 = true ∧ dgt B 48 p ≠ 0 := by
  have a := inB_ex (by omega) (by omega) h
  refine ⟨?_, ?_⟩
  · rw [inB, decide_eq_true a.1, a.2.2.1, wi_N (by omega) (by omega) (by omega), decide_eq_true (by omega), decide_eq_true (by omega)]
    rfl
  · rw [dgt, a.2.2.1, clampI (by omega)]
    omega
theorem in_no {B : Nat → Int32} {N p : Nat} (h0 : inB B N p 48 48 = false) (h1 : inB B N p 49 57 = false) : inB B N p 48 57 = false := by
  cases q : inB B N p 48 57 with
  | false => rfl
  | true =>
    have a := inB_ex (by omega) (by omega) q
    by_cases z : dgt B 48 p = 0
    · rw [inB, decide_eq_true a.1, a.2.2.1, z] at h0
      exact absurd h0 (by decide)
    · rw [inB, decide_eq_true a.1, a.2.2.1, wi_N (by omega) (by omega) (by omega), decide_eq_true (by omega), decide_eq_true (by omega)] at h1
      cases h1
set_option maxRecDepth 20000 in
set_option maxHeartbeats 4000000 in
theorem s1_passNumber (l : Launch) (d : Nat) (h : MH) (n i N : Nat) (ho kd fg so : Int32) (hN : N ≤ 100) (hsh : h (62 + 2 * i) = some (.inr (3, shF ho kd fg so (nI N) (63 + 2 * i)))) (el : Nat → Int32) (hel : h (63 + 2 * i) = some (ia 100 el)) (B : Nat → Int32) (hB : ∀ k, k < 100 → B k = el k) (p : Nat) (s : Int32) (hp : p < 1000)  : Sp l mX1_passNumber (d + 3) [.ref 56] (CR h i p s) n 0 0 (Pv (bI (inB B N p 48 57)) (CR h i (nmP B N p) s) n) := by
  show V _ _ _ _ [some (.ref 56)] _ _ _ _ _ _
  refine V.aload_n dX1_passNumber_0 rfl ?_
  refine V.bipush (v := nI 48) dX1_passNumber_1 (by decide) ?_
  refine V.bipush (v := nI 48) dX1_passNumber_3 (by decide) ?_
  refine V.callVv [_, _] dX1_passNumber_5 lk_X1_57 rfl (Nat.le_of_ble_eq_true rfl) (Nat.le_of_ble_eq_true rfl) (CR_56 _ _ _ _) rfl (s1_pass l _ h n i N ho kd fg so hN hsh el hel B hB (p) s (by omega) 48 48) ?_
  refine V.if_eqB (tgt := 13) dX1_passNumber_8 (by decide) (fun q0 => ?_) (fun q0 => ?_)
  rotate_left
  · obtain ⟨a1, a2⟩ := in_00 q0
    rw [if_pos q0, a1, show nmP B N p = p + 1 from by (rw [nmP, if_pos a1, if_pos a2])]
    refine V.iconst (v := nI 1) dX1_passNumber_11 (by decide) ?_
    exact V.iret (by exact dX1_passNumber_12) rfl (bI_narrow true) ⟨rfl, rfl, rfl⟩
  rw [if_neg (show ¬ inB B N p 48 48 = true by rw [q0]; decide)]
  refine V.aload_n dX1_passNumber_13 rfl ?_
  refine V.bipush (v := nI 49) dX1_passNumber_14 (by decide) ?_
  refine V.bipush (v := nI 57) dX1_passNumber_16 (by decide) ?_
  refine V.callVv [_, _] dX1_passNumber_18 lk_X1_57 rfl (Nat.le_of_ble_eq_true rfl) (Nat.le_of_ble_eq_true rfl) (CR_56 _ _ _ _) rfl (s1_pass l _ h n i N ho kd fg so hN hsh el hel B hB (p) s (by omega) 49 57) ?_
  refine V.if_neB (tgt := 26) dX1_passNumber_21 (by decide) (fun q1 => ?_) (fun q1 => ?_)
  rotate_left
  · have a1 := in_no q0 q1
    rw [if_neg (show ¬ inB B N p 49 57 = true by rw [q1]; decide), a1, show nmP B N p = p from by (rw [nmP, if_neg (by rw [a1]; decide)])]
    refine V.iconst (v := nI 0) dX1_passNumber_24 (by decide) ?_
    exact V.iret (by exact dX1_passNumber_25) rfl (bI_narrow false) ⟨rfl, rfl, rfl⟩
  obtain ⟨a1, a2⟩ := in_19 q1
  have hpN := (inB_ex (by omega) (by omega) q1).1
  rw [if_pos q1, a1]
  refine V.aload_n dX1_passNumber_26 rfl ?_
  refine V.bipush (v := nI 48) dX1_passNumber_27 (by decide) ?_
  refine V.bipush (v := nI 57) dX1_passNumber_29 (by decide) ?_
  refine V.callVv [_, _] dX1_passNumber_31 lk_X1_57 rfl (Nat.le_of_ble_eq_true rfl) (Nat.le_of_ble_eq_true rfl) (CR_56 _ _ _ _) rfl (s1_pass l _ h n i N ho kd fg so hN hsh el hel B hB (p + 1) s (by omega) 48 57) ?_
  refine V.if_eqB (tgt := 46) dX1_passNumber_34 (by decide) (fun q2 => ?_) (fun q2 => ?_)
  · rw [if_neg (show ¬ inB B N (p + 1) 48 57 = true by rw [q2]; decide), show nmP B N p = p + 1 from by (rw [nmP, if_pos a1, if_neg a2, if_neg (by rw [q2]; decide)])]
    refine V.iconst (v := nI 1) dX1_passNumber_46 (by decide) ?_
    exact V.iret (by exact dX1_passNumber_47) rfl (bI_narrow true) ⟨rfl, rfl, rfl⟩
  have hpN2 := (inB_ex (by omega) (by omega) q2).1
  rw [if_pos q2]
  refine V.aload_n dX1_passNumber_37 rfl ?_
  refine V.bipush (v := nI 48) dX1_passNumber_38 (by decide) ?_
  refine V.bipush (v := nI 57) dX1_passNumber_40 (by decide) ?_
  refine V.callVv [_, _] dX1_passNumber_42 lk_X1_57 rfl (Nat.le_of_ble_eq_true rfl) (Nat.le_of_ble_eq_true rfl) (CR_56 _ _ _ _) rfl (s1_pass l _ h n i N ho kd fg so hN hsh el hel B hB (p + 1 + 1) s (by omega) 48 57) ?_
  refine V.pop dX1_passNumber_45 rfl ?_
  rw [show nmP B N p = (if inB B N (p + 1 + 1) 48 57 = true then p + 1 + 1 + 1 else p + 1 + 1) from by (rw [nmP, if_pos a1, if_neg a2, if_pos q2])]
  refine V.iconst (v := nI 1) dX1_passNumber_46 (by decide) ?_
  exact V.iret (by exact dX1_passNumber_47) rfl (bI_narrow true) ⟨rfl, rfl, rfl⟩
set_option maxRecDepth 20000 in
set_option maxHeartbeats 4000000 in
theorem s1_sign_100 (l : Launch) (d : Nat) (h : MH) (n i N : Nat) (ho kd fg so : Int32) (hN : N ≤ 100) (hsh : h (62 + 2 * i) = some (.inr (3, shF ho kd fg so (nI N) (63 + 2 * i)))) (el : Nat → Int32) (hel : h (63 + 2 * i) = some (ia 100 el)) (B : Nat → Int32) (hB : ∀ k, k < 100 → B k = el k) (p : Nat) (s : Int32) (hp : p < 1000)  : Sp l mX1_passSign (d + 4) [.ref 56, .int (nI 100)] (CR h i p s) n 0 0 (Pv (bI (inB B N p 48 57)) (CR h i (if inB B N p 48 57 = true then p + 1 else p) s) n) := by
  show V _ _ _ _ [some (.ref 56), some (.int (nI 100))] _ _ _ _ _ _
  refine V.iload_n dX1_passSign_0 rfl ?_
  refine V.lookup (off := 43) (tgt := 44) dX1_passSign_1 (by decide) (by decide) (by decide) ?_
  refine V.aload_n dX1_passSign_44 rfl ?_
  refine V.bipush (v := nI 48) dX1_passSign_45 (by decide) ?_
  refine V.bipush (v := nI 57) dX1_passSign_47 (by decide) ?_
  refine V.callVv [_, _] dX1_passSign_49 lk_X1_57 rfl (Nat.le_of_ble_eq_true rfl) (Nat.le_of_ble_eq_true rfl) (CR_56 _ _ _ _) rfl (s1_pass l _ h n i N ho kd fg so hN hsh el hel B hB (p) s (by omega) 48 57) ?_
  exact V.iret (by exact dX1_passSign_52) rfl (bI_narrow _) ⟨rfl, rfl, rfl⟩
set_option maxRecDepth 20000 in
set_option maxHeartbeats 4000000 in
theorem s1_sign_99 (l : Launch) (d : Nat) (h : MH) (n i N : Nat) (ho kd fg so : Int32) (hN : N ≤ 100) (hsh : h (62 + 2 * i) = some (.inr (3, shF ho kd fg so (nI N) (63 + 2 * i)))) (el : Nat → Int32) (hel : h (63 + 2 * i) = some (ia 100 el)) (B : Nat → Int32) (hB : ∀ k, k < 100 → B k = el k) (p : Nat) (s : Int32) (hp : p < 1000)  : Sp l mX1_passSign (d + 4) [.ref 56, .int (nI 99)] (CR h i p s) n 0 0 (Pv (bI (inB B N p 97 108)) (CR h i (if inB B N p 97 108 = true then p + 1 else p) s) n) := by
  show V _ _ _ _ [some (.ref 56), some (.int (nI 99))] _ _ _ _ _ _
  refine V.iload_n dX1_passSign_0 rfl ?_
  refine V.lookup (off := 52) (tgt := 53) dX1_passSign_1 (by decide) (by decide) (by decide) ?_
  refine V.aload_n dX1_passSign_53 rfl ?_
  refine V.bipush (v := nI 97) dX1_passSign_54 (by decide) ?_
  refine V.bipush (v := nI 108) dX1_passSign_56 (by decide) ?_
  refine V.callVv [_, _] dX1_passSign_58 lk_X1_57 rfl (Nat.le_of_ble_eq_true rfl) (Nat.le_of_ble_eq_true rfl) (CR_56 _ _ _ _) rfl (s1_pass l _ h n i N ho kd fg so hN hsh el hel B hB (p) s (by omega) 97 108) ?_
  exact V.iret (by exact dX1_passSign_61) rfl (bI_narrow _) ⟨rfl, rfl, rfl⟩
set_option maxRecDepth 20000 in
set_option maxHeartbeats 4000000 in
theorem s1_sign_114 (l : Launch) (d : Nat) (h : MH) (n i N : Nat) (ho kd fg so : Int32) (hN : N ≤ 100) (hsh : h (62 + 2 * i) = some (.inr (3, shF ho kd fg so (nI N) (63 + 2 * i)))) (el : Nat → Int32) (hel : h (63 + 2 * i) = some (ia 100 el)) (B : Nat → Int32) (hB : ∀ k, k < 100 → B k = el k) (p : Nat) (s : Int32) (hp : p < 1000)  : Sp l mX1_passSign (d + 4) [.ref 56, .int (nI 114)] (CR h i p s) n 0 0 (Pv (bI (inB B N p 48 54)) (CR h i (if inB B N p 48 54 = true then p + 1 else p) s) n) := by
  show V _ _ _ _ [some (.ref 56), some (.int (nI 114))] _ _ _ _ _ _
  refine V.iload_n dX1_passSign_0 rfl ?_
  refine V.lookup (off := 61) (tgt := 62) dX1_passSign_1 (by decide) (by decide) (by decide) ?_
  refine V.aload_n dX1_passSign_62 rfl ?_
  refine V.bipush (v := nI 48) dX1_passSign_63 (by decide) ?_
  refine V.bipush (v := nI 54) dX1_passSign_65 (by decide) ?_
  refine V.callVv [_, _] dX1_passSign_67 lk_X1_57 rfl (Nat.le_of_ble_eq_true rfl) (Nat.le_of_ble_eq_true rfl) (CR_56 _ _ _ _) rfl (s1_pass l _ h n i N ho kd fg so hN hsh el hel B hB (p) s (by omega) 48 54) ?_
  exact V.iret (by exact dX1_passSign_70) rfl (bI_narrow _) ⟨rfl, rfl, rfl⟩
set_option maxRecDepth 20000 in
set_option maxHeartbeats 4000000 in
theorem s1_sign_110 (l : Launch) (d : Nat) (h : MH) (n i N : Nat) (ho kd fg so : Int32) (hN : N ≤ 100) (hsh : h (62 + 2 * i) = some (.inr (3, shF ho kd fg so (nI N) (63 + 2 * i)))) (el : Nat → Int32) (hel : h (63 + 2 * i) = some (ia 100 el)) (B : Nat → Int32) (hB : ∀ k, k < 100 → B k = el k) (p : Nat) (s : Int32) (hp : p < 1000)  : Sp l mX1_passSign (d + 4) [.ref 56, .int (nI 110)] (CR h i p s) n 0 0 (Pv (bI (inB B N p 48 57)) (CR h i (nmP B N p) s) n) := by
  show V _ _ _ _ [some (.ref 56), some (.int (nI 110))] _ _ _ _ _ _
  refine V.iload_n dX1_passSign_0 rfl ?_
  refine V.lookup (off := 70) (tgt := 71) dX1_passSign_1 (by decide) (by decide) (by decide) ?_
  refine V.aload_n dX1_passSign_71 rfl ?_
  refine V.callVv [] dX1_passSign_72 lk_X1_73 rfl (Nat.le_of_ble_eq_true rfl) (Nat.le_of_ble_eq_true rfl) (CR_56 _ _ _ _) rfl (s1_passNumber l _ h n i N ho kd fg so hN hsh el hel B hB p s hp) ?_
  exact V.iret (by exact dX1_passSign_75) rfl (bI_narrow _) ⟨rfl, rfl, rfl⟩
set_option maxRecDepth 20000 in
set_option maxHeartbeats 4000000 in
theorem s1_sign_63 (l : Launch) (d : Nat) (h : MH) (n i N : Nat) (ho kd fg so : Int32) (hN : N ≤ 100) (hsh : h (62 + 2 * i) = some (.inr (3, shF ho kd fg so (nI N) (63 + 2 * i)))) (el : Nat → Int32) (hel : h (63 + 2 * i) = some (ia 100 el)) (B : Nat → Int32) (hB : ∀ k, k < 100 → B k = el k) (p : Nat) (s : Int32) (hp : p < 1000)  : Sp l mX1_passSign (d + 4) [.ref 56, .int (nI 63)] (CR h i p s) n 0 0 (Pv (bI (!inB B N p 97 108 || inB B N (p + 1) 48 54)) (CR h i (if inB B N p 97 108 = true then (if inB B N (p + 1) 48 54 = true then p + 1 + 1 else p + 1) else p) s) n) := by
  show V _ _ _ _ [some (.ref 56), some (.int (nI 63))] _ _ _ _ _ _
  refine V.iload_n dX1_passSign_0 rfl ?_
  refine V.lookup (off := 75) (tgt := 76) dX1_passSign_1 (by decide) (by decide) (by decide) ?_
  refine V.aload_n dX1_passSign_76 rfl ?_
  refine V.bipush (v := nI 97) dX1_passSign_77 (by decide) ?_
  refine V.bipush (v := nI 108) dX1_passSign_79 (by decide) ?_
  refine V.callVv [_, _] dX1_passSign_81 lk_X1_57 rfl (Nat.le_of_ble_eq_true rfl) (Nat.le_of_ble_eq_true rfl) (CR_56 _ _ _ _) rfl (s1_pass l _ h n i N ho kd fg so hN hsh el hel B hB (p) s (by omega) 97 108) ?_
  refine V.if_eqB (tgt := 98) dX1_passSign_84 (by decide) (fun q => ?_) (fun q => ?_)
  · rw [q, if_neg (by decide), if_neg (by decide)]
    refine V.iconst (v := nI 1) dX1_passSign_98 (by decide) ?_
    refine V.goto (tgt := 103) dX1_passSign_99 (by decide) ?_
    exact V.iret (by exact dX1_passSign_103) rfl (bI_narrow true) ⟨rfl, rfl, rfl⟩
  have hpN := (inB_ex (by omega) (by omega) q).1
  rw [q, if_pos rfl, if_pos rfl]
  refine V.aload_n dX1_passSign_87 rfl ?_
  refine V.bipush (v := nI 48) dX1_passSign_88 (by decide) ?_
  refine V.bipush (v := nI 54) dX1_passSign_90 (by decide) ?_
  refine V.callVv [_, _] dX1_passSign_92 lk_X1_57 rfl (Nat.le_of_ble_eq_true rfl) (Nat.le_of_ble_eq_true rfl) (CR_56 _ _ _ _) rfl (s1_pass l _ h n i N ho kd fg so hN hsh el hel B hB (p + 1) s (by omega) 48 54) ?_
  refine V.if_eqB (tgt := 102) dX1_passSign_95 (by decide) (fun q2 => ?_) (fun q2 => ?_)
  · rw [q2]
    refine V.iconst (v := nI 0) dX1_passSign_102 (by decide) ?_
    exact V.iret (by exact dX1_passSign_103) rfl (bI_narrow false) ⟨rfl, rfl, rfl⟩
  · rw [q2]
    refine V.iconst (v := nI 1) dX1_passSign_98 (by decide) ?_
    refine V.goto (tgt := 103) dX1_passSign_99 (by decide) ?_
    exact V.iret (by exact dX1_passSign_103) rfl (bI_narrow true) ⟨rfl, rfl, rfl⟩
