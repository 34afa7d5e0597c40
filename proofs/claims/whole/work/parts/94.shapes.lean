/-- the shape of a statement that begins with this letter -/
def shI (c : Nat) : Nat := if c = 103 then 0 else if c = 114 ∨ c = 101 ∨ c = 102 ∨ c = 108 then 1 else if c = 116 ∨ c = 104 then 2 else if c = 112 then 3 else if c = 99 then 4 else 5
set_option maxRecDepth 20000 in
set_option maxHeartbeats 4000000 in
theorem s1_shapeOf (l : Launch) (d : Nat) (h : MH) (n : Nat) (x : Int32) (c : Nat) (hc : x.toNatClampNeg = c) : Sp l mX1_shapeOf d [.int x] h n 0 0 (fun r h1 n1 => r = some (.ref (1000000 + shI c)) ∧ h1 = h ∧ n1 = n) := by
  show V _ _ _ _ [some (.int x)] _ _ _ _ _ _
  refine V.iload_n dX1_shapeOf_0 rfl ?_
  by_cases hr : x.toInt < 99 ∨ 116 < x.toInt
  · have e : shI c = 5 := by
      rw [Int32.toNatClampNeg] at hc
      unfold shI
      rw [if_neg (by omega), if_neg (by omega), if_neg (by omega), if_neg (by omega), if_neg (by omega)]
    refine V.tableOut (tgt := 103) dX1_shapeOf_1 hr (by decide) ?_
    refine V.ldcS 5 dX1_shapeOf_103 (by decide) rfl rfl ?_
    exact V.aret (by exact dX1_shapeOf_105) rfl ⟨by rw [e], rfl, rfl⟩
  · have h0 : x.toInt = 99 ∨ x.toInt = 100 ∨ x.toInt = 101 ∨ x.toInt = 102 ∨ x.toInt = 103 ∨ x.toInt = 104 ∨ x.toInt = 105 ∨ x.toInt = 106 ∨ x.toInt = 107 ∨ x.toInt = 108 ∨ x.toInt = 109 ∨ x.toInt = 110 ∨ x.toInt = 111 ∨ x.toInt = 112 ∨ x.toInt = 113 ∨ x.toInt = 114 ∨ x.toInt = 115 ∨ x.toInt = 116 := by omega
    rcases h0 with h0 | h0 | h0 | h0 | h0 | h0 | h0 | h0 | h0 | h0 | h0 | h0 | h0 | h0 | h0 | h0 | h0 | h0
    · have e : shI c = 4 := by
        rw [Int32.toNatClampNeg, h0] at hc
        rw [← hc]
        decide
      refine V.tableIn (off := 99) (tgt := 100) dX1_shapeOf_1 (by rw [h0]; decide) (by rw [h0]; decide) (by rw [h0]; rfl) (by decide) ?_
      refine V.ldcS 4 dX1_shapeOf_100 (by decide) rfl rfl ?_
      exact V.aret (by exact dX1_shapeOf_102) rfl ⟨by rw [e], rfl, rfl⟩
    · have e : shI c = 5 := by
        rw [Int32.toNatClampNeg, h0] at hc
        rw [← hc]
        decide
      refine V.tableIn (off := 102) (tgt := 103) dX1_shapeOf_1 (by rw [h0]; decide) (by rw [h0]; decide) (by rw [h0]; rfl) (by decide) ?_
      refine V.ldcS 5 dX1_shapeOf_103 (by decide) rfl rfl ?_
      exact V.aret (by exact dX1_shapeOf_105) rfl ⟨by rw [e], rfl, rfl⟩
    · have e : shI c = 1 := by
        rw [Int32.toNatClampNeg, h0] at hc
        rw [← hc]
        decide
      refine V.tableIn (off := 90) (tgt := 91) dX1_shapeOf_1 (by rw [h0]; decide) (by rw [h0]; decide) (by rw [h0]; rfl) (by decide) ?_
      refine V.ldcS 1 dX1_shapeOf_91 (by decide) rfl rfl ?_
      exact V.aret (by exact dX1_shapeOf_93) rfl ⟨by rw [e], rfl, rfl⟩
    · have e : shI c = 1 := by
        rw [Int32.toNatClampNeg, h0] at hc
        rw [← hc]
        decide
      refine V.tableIn (off := 90) (tgt := 91) dX1_shapeOf_1 (by rw [h0]; decide) (by rw [h0]; decide) (by rw [h0]; rfl) (by decide) ?_
      refine V.ldcS 1 dX1_shapeOf_91 (by decide) rfl rfl ?_
      exact V.aret (by exact dX1_shapeOf_93) rfl ⟨by rw [e], rfl, rfl⟩
    · have e : shI c = 0 := by
        rw [Int32.toNatClampNeg, h0] at hc
        rw [← hc]
        decide
      refine V.tableIn (off := 87) (tgt := 88) dX1_shapeOf_1 (by rw [h0]; decide) (by rw [h0]; decide) (by rw [h0]; rfl) (by decide) ?_
      refine V.ldcS 0 dX1_shapeOf_88 (by decide) rfl rfl ?_
      exact V.aret (by exact dX1_shapeOf_90) rfl ⟨by rw [e], rfl, rfl⟩
    · have e : shI c = 2 := by
        rw [Int32.toNatClampNeg, h0] at hc
        rw [← hc]
        decide
      refine V.tableIn (off := 93) (tgt := 94) dX1_shapeOf_1 (by rw [h0]; decide) (by rw [h0]; decide) (by rw [h0]; rfl) (by decide) ?_
      refine V.ldcS 2 dX1_shapeOf_94 (by decide) rfl rfl ?_
      exact V.aret (by exact dX1_shapeOf_96) rfl ⟨by rw [e], rfl, rfl⟩
    · have e : shI c = 5 := by
        rw [Int32.toNatClampNeg, h0] at hc
        rw [← hc]
        decide
      refine V.tableIn (off := 102) (tgt := 103) dX1_shapeOf_1 (by rw [h0]; decide) (by rw [h0]; decide) (by rw [h0]; rfl) (by decide) ?_
      refine V.ldcS 5 dX1_shapeOf_103 (by decide) rfl rfl ?_
      exact V.aret (by exact dX1_shapeOf_105) rfl ⟨by rw [e], rfl, rfl⟩
    · have e : shI c = 5 := by
        rw [Int32.toNatClampNeg, h0] at hc
        rw [← hc]
        decide
      refine V.tableIn (off := 102) (tgt := 103) dX1_shapeOf_1 (by rw [h0]; decide) (by rw [h0]; decide) (by rw [h0]; rfl) (by decide) ?_
      refine V.ldcS 5 dX1_shapeOf_103 (by decide) rfl rfl ?_
      exact V.aret (by exact dX1_shapeOf_105) rfl ⟨by rw [e], rfl, rfl⟩
    · have e : shI c = 5 := by
        rw [Int32.toNatClampNeg, h0] at hc
        rw [← hc]
        decide
      refine V.tableIn (off := 102) (tgt := 103) dX1_shapeOf_1 (by rw [h0]; decide) (by rw [h0]; decide) (by rw [h0]; rfl) (by decide) ?_
      refine V.ldcS 5 dX1_shapeOf_103 (by decide) rfl rfl ?_
      exact V.aret (by exact dX1_shapeOf_105) rfl ⟨by rw [e], rfl, rfl⟩
    · have e : shI c = 1 := by
        rw [Int32.toNatClampNeg, h0] at hc
        rw [← hc]
        decide
      refine V.tableIn (off := 90) (tgt := 91) dX1_shapeOf_1 (by rw [h0]; decide) (by rw [h0]; decide) (by rw [h0]; rfl) (by decide) ?_
      refine V.ldcS 1 dX1_shapeOf_91 (by decide) rfl rfl ?_
      exact V.aret (by exact dX1_shapeOf_93) rfl ⟨by rw [e], rfl, rfl⟩
    · have e : shI c = 5 := by
        rw [Int32.toNatClampNeg, h0] at hc
        rw [← hc]
        decide
      refine V.tableIn (off := 102) (tgt := 103) dX1_shapeOf_1 (by rw [h0]; decide) (by rw [h0]; decide) (by rw [h0]; rfl) (by decide) ?_
      refine V.ldcS 5 dX1_shapeOf_103 (by decide) rfl rfl ?_
      exact V.aret (by exact dX1_shapeOf_105) rfl ⟨by rw [e], rfl, rfl⟩
    · have e : shI c = 5 := by
        rw [Int32.toNatClampNeg, h0] at hc
        rw [← hc]
        decide
      refine V.tableIn (off := 102) (tgt := 103) dX1_shapeOf_1 (by rw [h0]; decide) (by rw [h0]; decide) (by rw [h0]; rfl) (by decide) ?_
      refine V.ldcS 5 dX1_shapeOf_103 (by decide) rfl rfl ?_
      exact V.aret (by exact dX1_shapeOf_105) rfl ⟨by rw [e], rfl, rfl⟩
    · have e : shI c = 5 := by
        rw [Int32.toNatClampNeg, h0] at hc
        rw [← hc]
        decide
      refine V.tableIn (off := 102) (tgt := 103) dX1_shapeOf_1 (by rw [h0]; decide) (by rw [h0]; decide) (by rw [h0]; rfl) (by decide) ?_
      refine V.ldcS 5 dX1_shapeOf_103 (by decide) rfl rfl ?_
      exact V.aret (by exact dX1_shapeOf_105) rfl ⟨by rw [e], rfl, rfl⟩
    · have e : shI c = 3 := by
        rw [Int32.toNatClampNeg, h0] at hc
        rw [← hc]
        decide
      refine V.tableIn (off := 96) (tgt := 97) dX1_shapeOf_1 (by rw [h0]; decide) (by rw [h0]; decide) (by rw [h0]; rfl) (by decide) ?_
      refine V.ldcS 3 dX1_shapeOf_97 (by decide) rfl rfl ?_
      exact V.aret (by exact dX1_shapeOf_99) rfl ⟨by rw [e], rfl, rfl⟩
    · have e : shI c = 5 := by
        rw [Int32.toNatClampNeg, h0] at hc
        rw [← hc]
        decide
      refine V.tableIn (off := 102) (tgt := 103) dX1_shapeOf_1 (by rw [h0]; decide) (by rw [h0]; decide) (by rw [h0]; rfl) (by decide) ?_
      refine V.ldcS 5 dX1_shapeOf_103 (by decide) rfl rfl ?_
      exact V.aret (by exact dX1_shapeOf_105) rfl ⟨by rw [e], rfl, rfl⟩
    · have e : shI c = 1 := by
        rw [Int32.toNatClampNeg, h0] at hc
        rw [← hc]
        decide
      refine V.tableIn (off := 90) (tgt := 91) dX1_shapeOf_1 (by rw [h0]; decide) (by rw [h0]; decide) (by rw [h0]; rfl) (by decide) ?_
      refine V.ldcS 1 dX1_shapeOf_91 (by decide) rfl rfl ?_
      exact V.aret (by exact dX1_shapeOf_93) rfl ⟨by rw [e], rfl, rfl⟩
    · have e : shI c = 5 := by
        rw [Int32.toNatClampNeg, h0] at hc
        rw [← hc]
        decide
      refine V.tableIn (off := 102) (tgt := 103) dX1_shapeOf_1 (by rw [h0]; decide) (by rw [h0]; decide) (by rw [h0]; rfl) (by decide) ?_
      refine V.ldcS 5 dX1_shapeOf_103 (by decide) rfl rfl ?_
      exact V.aret (by exact dX1_shapeOf_105) rfl ⟨by rw [e], rfl, rfl⟩
    · have e : shI c = 2 := by
        rw [Int32.toNatClampNeg, h0] at hc
        rw [← hc]
        decide
      refine V.tableIn (off := 93) (tgt := 94) dX1_shapeOf_1 (by rw [h0]; decide) (by rw [h0]; decide) (by rw [h0]; rfl) (by decide) ?_
      refine V.ldcS 2 dX1_shapeOf_94 (by decide) rfl rfl ?_
      exact V.aret (by exact dX1_shapeOf_96) rfl ⟨by rw [e], rfl, rfl⟩
set_option maxRecDepth 20000 in
set_option maxHeartbeats 4000000 in
theorem s1_ps_step (l : Launch) (d : Nat) (h : MH) (n i N : Nat) (ho kd fg so : Int32) (hN : N ≤ 100) (hsh : h (62 + 2 * i) = some (.inr (3, shF ho kd fg so (nI N) (63 + 2 * i)))) (el : Nat → Int32) (hel : h (63 + 2 * i) = some (ia 100 el)) (B : Nat → Int32) (hB : ∀ k, k < 100 → B k = el k) (p q : Nat) (s : Int32) (j k c : Nat) (hj : j < 6) (hk : k < lenS.getD j 0) (hl : lenS.getD j 0 < 1000) (hlv : nI (lenS.getD j 0) >>> (nI 0 &&& 31) = nI (lenS.getD j 0)) (hc : ((sby j k &&& nI 255).toUInt32 % 65536).toInt32 = nI c) (hn : narrow .char (.int (nI c)) = .int (nI c)) (b : Bool) (hs : Sp l mX1_passSign (d + 4) [.ref 56, .int (nI c)] (CR h i p s) n 0 0 (Pv (bI b) (CR h i q s) n)) (R : Bool × Nat) (hf : b = false → R = (false, q)) (ht : b = true → V l mX1_passStatement (d + 5) 33 [some (.ref 56), some (.ref (1000000 + j)), some (.int (nI (k + 1)))] [] (CR h i q s) n 0 0 (Pv (bI R.1) (CR h i R.2 s) n)) : V l mX1_passStatement (d + 5) 33 [some (.ref 56), some (.ref (1000000 + j)), some (.int (nI (k)))] [] (CR h i p s) n 0 0 (Pv (bI R.1) (CR h i R.2 s) n) := by
  refine V.iload_n dX1_passStatement_33 rfl ?_
  refine V.aload_n dX1_passStatement_34 rfl ?_
  refine V.callVSv [] dX1_passStatement_35 lk_X1_45 rfl (Nat.le_of_ble_eq_true rfl) (Nat.le_of_ble_eq_true rfl) hj rfl (sJ_length l _ _ _ _ hj hlv) ?_
  refine V.icmp_geN (tgt := 61) dX1_passStatement_38 (by decide) (by omega) (by omega) (fun q => absurd q (by omega)) (fun _ => ?_)
  refine V.aload_n dX1_passStatement_41 rfl ?_
  refine V.aload_n dX1_passStatement_42 rfl ?_
  refine V.iload_n dX1_passStatement_43 rfl ?_
  refine V.callVSv [_] dX1_passStatement_44 lk_X1_49 rfl (Nat.le_of_ble_eq_true rfl) (Nat.le_of_ble_eq_true rfl) hj rfl (sJ_charAt l _ _ _ _ _ hj hk hl (nI c) hc hn) ?_
  refine V.callVv [_] dX1_passStatement_47 lk_X1_53 rfl (Nat.le_of_ble_eq_true rfl) (Nat.le_of_ble_eq_true rfl) (CR_56 _ _ _ _) rfl hs ?_
  refine V.if_neB (tgt := 55) dX1_passStatement_50 (by decide) (fun y => ?_) (fun y => ?_)
  · refine V.iincN dX1_passStatement_55 rfl (by decide) rfl ?_
    refine V.goto (tgt := 33) dX1_passStatement_58 (by decide) ?_
    exact ht y
  · rw [hf y]
    refine V.iconst (v := nI 0) dX1_passStatement_53 (by decide) ?_
    exact V.iret (by exact dX1_passStatement_54) rfl (bI_narrow false) ⟨rfl, rfl, rfl⟩
set_option maxRecDepth 20000 in
set_option maxHeartbeats 4000000 in
theorem s1_ps_end (l : Launch) (d : Nat) (h : MH) (n i N : Nat) (ho kd fg so : Int32) (hN : N ≤ 100) (hsh : h (62 + 2 * i) = some (.inr (3, shF ho kd fg so (nI N) (63 + 2 * i)))) (el : Nat → Int32) (hel : h (63 + 2 * i) = some (ia 100 el)) (B : Nat → Int32) (hB : ∀ k, k < 100 → B k = el k) (p : Nat) (hp : p < 1000) (s : Int32) (j : Nat) (hj : j < 6) (hl : lenS.getD j 0 < 1000) (hlv : nI (lenS.getD j 0) >>> (nI 0 &&& 31) = nI (lenS.getD j 0)) : V l mX1_passStatement (d + 5) 33 [some (.ref 56), some (.ref (1000000 + j)), some (.int (nI (lenS.getD j 0)))] [] (CR h i p s) n 0 0 (Pv (bI (run B N [(59, 59)] p fin1).1) (CR h i (run B N [(59, 59)] p fin1).2 s) n) := by
  refine V.iload_n dX1_passStatement_33 rfl ?_
  refine V.aload_n dX1_passStatement_34 rfl ?_
  refine V.callVSv [] dX1_passStatement_35 lk_X1_45 rfl (Nat.le_of_ble_eq_true rfl) (Nat.le_of_ble_eq_true rfl) hj rfl (sJ_length l _ _ _ _ hj hlv) ?_
  refine V.icmp_geN (tgt := 61) dX1_passStatement_38 (by decide) (by omega) (by omega) (fun _ => ?_) (fun q => absurd q (by omega))
  refine V.aload_n dX1_passStatement_61 rfl ?_
  refine V.bipush (v := nI 59) dX1_passStatement_62 (by decide) ?_
  refine V.bipush (v := nI 59) dX1_passStatement_64 (by decide) ?_
  refine V.callVv [_, _] dX1_passStatement_66 lk_X1_57 rfl (Nat.le_of_ble_eq_true rfl) (Nat.le_of_ble_eq_true rfl) (CR_56 _ _ _ _) rfl (s1_pass l _ h n i N ho kd fg so hN hsh el hel B hB p s hp 59 59) ?_
  refine V.iret (by exact dX1_passStatement_69) rfl (bI_narrow _) ?_
  cases q : inB B N p 59 59 with
  | true =>
    rw [run_y q, if_pos rfl]
    exact ⟨rfl, rfl, rfl⟩
  | false =>
    rw [run_n q, if_neg (by decide)]
    exact ⟨rfl, rfl, rfl⟩
set_option maxRecDepth 20000 in
set_option maxHeartbeats 4000000 in
theorem s1_ps_1 (l : Launch) (d : Nat) (h : MH) (n i N : Nat) (ho kd fg so : Int32) (hN : N ≤ 100) (hsh : h (62 + 2 * i) = some (.inr (3, shF ho kd fg so (nI N) (63 + 2 * i)))) (el : Nat → Int32) (hel : h (63 + 2 * i) = some (ia 100 el)) (B : Nat → Int32) (hB : ∀ k, k < 100 → B k = el k) (p : Nat) (hp : p < N) (s : Int32) : V l mX1_passStatement (d + 5) 33 [some (.ref 56), some (.ref (1000000 + 1)), some (.int (nI 0))] [] (CR h i (p + 1) s) n 0 0 (Pv (bI (run B N [(48, 57), (59, 59)] (p + 1) fin1).1) (CR h i (run B N [(48, 57), (59, 59)] (p + 1) fin1).2 s) n) := by
  refine s1_ps_step l d h n i N ho kd fg so hN hsh el hel B hB _ _ s 1 0 100 (by decide) (by decide) (by decide) (by decide) (by decide) (by decide) _ (s1_sign_100 l _ h n i N ho kd fg so hN hsh el hel B hB (p + 1) s (by omega)) _ (fun y => by rw [run_n y, if_neg (by rw [y]; decide)]) (fun y => ?_)
  rw [run_y y, if_pos y]
  have hb0 := (inB_ex (by omega) (by omega) y).1
  exact s1_ps_end l d h n i N ho kd fg so hN hsh el hel B hB (p + 1 + 1) (by omega) s 1 (by decide) (by decide) (by decide)
set_option maxRecDepth 20000 in
set_option maxHeartbeats 4000000 in
theorem s1_ps_3 (l : Launch) (d : Nat) (h : MH) (n i N : Nat) (ho kd fg so : Int32) (hN : N ≤ 100) (hsh : h (62 + 2 * i) = some (.inr (3, shF ho kd fg so (nI N) (63 + 2 * i)))) (el : Nat → Int32) (hel : h (63 + 2 * i) = some (ia 100 el)) (B : Nat → Int32) (hB : ∀ k, k < 100 → B k = el k) (p : Nat) (hp : p < N) (s : Int32) : V l mX1_passStatement (d + 5) 33 [some (.ref 56), some (.ref (1000000 + 3)), some (.int (nI 0))] [] (CR h i (p + 1) s) n 0 0 (Pv (bI (run B N [(48, 57), (48, 57), (48, 57), (97, 108), (48, 54), (59, 59)] (p + 1) fin1).1) (CR h i (run B N [(48, 57), (48, 57), (48, 57), (97, 108), (48, 54), (59, 59)] (p + 1) fin1).2 s) n) := by
  refine s1_ps_step l d h n i N ho kd fg so hN hsh el hel B hB _ _ s 3 0 100 (by decide) (by decide) (by decide) (by decide) (by decide) (by decide) _ (s1_sign_100 l _ h n i N ho kd fg so hN hsh el hel B hB (p + 1) s (by omega)) _ (fun y => by rw [run_n y, if_neg (by rw [y]; decide)]) (fun y => ?_)
  rw [run_y y, if_pos y]
  have hb0 := (inB_ex (by omega) (by omega) y).1
  refine s1_ps_step l d h n i N ho kd fg so hN hsh el hel B hB _ _ s 3 1 100 (by decide) (by decide) (by decide) (by decide) (by decide) (by decide) _ (s1_sign_100 l _ h n i N ho kd fg so hN hsh el hel B hB (p + 1 + 1) s (by omega)) _ (fun y => by rw [run_n y, if_neg (by rw [y]; decide)]) (fun y => ?_)
  rw [run_y y, if_pos y]
  have hb1 := (inB_ex (by omega) (by omega) y).1
  refine s1_ps_step l d h n i N ho kd fg so hN hsh el hel B hB _ _ s 3 2 100 (by decide) (by decide) (by decide) (by decide) (by decide) (by decide) _ (s1_sign_100 l _ h n i N ho kd fg so hN hsh el hel B hB (p + 1 + 1 + 1) s (by omega)) _ (fun y => by rw [run_n y, if_neg (by rw [y]; decide)]) (fun y => ?_)
  rw [run_y y, if_pos y]
  have hb2 := (inB_ex (by omega) (by omega) y).1
  refine s1_ps_step l d h n i N ho kd fg so hN hsh el hel B hB _ _ s 3 3 99 (by decide) (by decide) (by decide) (by decide) (by decide) (by decide) _ (s1_sign_99 l _ h n i N ho kd fg so hN hsh el hel B hB (p + 1 + 1 + 1 + 1) s (by omega)) _ (fun y => by rw [run_n y, if_neg (by rw [y]; decide)]) (fun y => ?_)
  rw [run_y y, if_pos y]
  have hb3 := (inB_ex (by omega) (by omega) y).1
  refine s1_ps_step l d h n i N ho kd fg so hN hsh el hel B hB _ _ s 3 4 114 (by decide) (by decide) (by decide) (by decide) (by decide) (by decide) _ (s1_sign_114 l _ h n i N ho kd fg so hN hsh el hel B hB (p + 1 + 1 + 1 + 1 + 1) s (by omega)) _ (fun y => by rw [run_n y, if_neg (by rw [y]; decide)]) (fun y => ?_)
  rw [run_y y, if_pos y]
  have hb4 := (inB_ex (by omega) (by omega) y).1
  exact s1_ps_end l d h n i N ho kd fg so hN hsh el hel B hB (p + 1 + 1 + 1 + 1 + 1 + 1) (by omega) s 3 (by decide) (by decide) (by decide)
set_option maxRecDepth 20000 in
set_option maxHeartbeats 4000000 in
theorem s1_ps_4 (l : Launch) (d : Nat) (h : MH) (n i N : Nat) (ho kd fg so : Int32) (hN : N ≤ 100) (hsh : h (62 + 2 * i) = some (.inr (3, shF ho kd fg so (nI N) (63 + 2 * i)))) (el : Nat → Int32) (hel : h (63 + 2 * i) = some (ia 100 el)) (B : Nat → Int32) (hB : ∀ k, k < 100 → B k = el k) (p : Nat) (hp : p < N) (s : Int32) : V l mX1_passStatement (d + 5) 33 [some (.ref 56), some (.ref (1000000 + 4)), some (.int (nI 0))] [] (CR h i (p + 1) s) n 0 0 (Pv (bI (run B N [(48, 57), (48, 57), (48, 57), (48, 57), (59, 59)] (p + 1) fin1).1) (CR h i (run B N [(48, 57), (48, 57), (48, 57), (48, 57), (59, 59)] (p + 1) fin1).2 s) n) := by
  refine s1_ps_step l d h n i N ho kd fg so hN hsh el hel B hB _ _ s 4 0 100 (by decide) (by decide) (by decide) (by decide) (by decide) (by decide) _ (s1_sign_100 l _ h n i N ho kd fg so hN hsh el hel B hB (p + 1) s (by omega)) _ (fun y => by rw [run_n y, if_neg (by rw [y]; decide)]) (fun y => ?_)
  rw [run_y y, if_pos y]
  have hb0 := (inB_ex (by omega) (by omega) y).1
  refine s1_ps_step l d h n i N ho kd fg so hN hsh el hel B hB _ _ s 4 1 100 (by decide) (by decide) (by decide) (by decide) (by decide) (by decide) _ (s1_sign_100 l _ h n i N ho kd fg so hN hsh el hel B hB (p + 1 + 1) s (by omega)) _ (fun y => by rw [run_n y, if_neg (by rw [y]; decide)]) (fun y => ?_)
  rw [run_y y, if_pos y]
  have hb1 := (inB_ex (by omega) (by omega) y).1
  refine s1_ps_step l d h n i N ho kd fg so hN hsh el hel B hB _ _ s 4 2 100 (by decide) (by decide) (by decide) (by decide) (by decide) (by decide) _ (s1_sign_100 l _ h n i N ho kd fg so hN hsh el hel B hB (p + 1 + 1 + 1) s (by omega)) _ (fun y => by rw [run_n y, if_neg (by rw [y]; decide)]) (fun y => ?_)
  rw [run_y y, if_pos y]
  have hb2 := (inB_ex (by omega) (by omega) y).1
  refine s1_ps_step l d h n i N ho kd fg so hN hsh el hel B hB _ _ s 4 3 100 (by decide) (by decide) (by decide) (by decide) (by decide) (by decide) _ (s1_sign_100 l _ h n i N ho kd fg so hN hsh el hel B hB (p + 1 + 1 + 1 + 1) s (by omega)) _ (fun y => by rw [run_n y, if_neg (by rw [y]; decide)]) (fun y => ?_)
  rw [run_y y, if_pos y]
  have hb3 := (inB_ex (by omega) (by omega) y).1
  exact s1_ps_end l d h n i N ho kd fg so hN hsh el hel B hB (p + 1 + 1 + 1 + 1 + 1) (by omega) s 4 (by decide) (by decide) (by decide)
set_option maxRecDepth 20000 in
set_option maxHeartbeats 4000000 in
theorem s1_ps_2 (l : Launch) (d : Nat) (h : MH) (n i N : Nat) (ho kd fg so : Int32) (hN : N ≤ 100) (hsh : h (62 + 2 * i) = some (.inr (3, shF ho kd fg so (nI N) (63 + 2 * i)))) (el : Nat → Int32) (hel : h (63 + 2 * i) = some (ia 100 el)) (B : Nat → Int32) (hB : ∀ k, k < 100 → B k = el k) (p : Nat) (hp : p < N) (s : Int32) : V l mX1_passStatement (d + 5) 33 [some (.ref 56), some (.ref (1000000 + 2)), some (.int (nI 0))] [] (CR h i (p + 1) s) n 0 0 (Pv (bI (if inB B N (p + 1) 48 57 = true then run B N [(59, 59)] (nmP B N (p + 1)) fin1 else (false, p + 1)).1) (CR h i (if inB B N (p + 1) 48 57 = true then run B N [(59, 59)] (nmP B N (p + 1)) fin1 else (false, p + 1)).2 s) n) := by
  have hm : nmP B N (p + 1) < 1000 := by
    unfold nmP
    split
    · split
      · omega
      · split
        · split <;> omega
        · omega
    · omega
  refine s1_ps_step l d h n i N ho kd fg so hN hsh el hel B hB _ _ s 2 0 110 (by decide) (by decide) (by decide) (by decide) (by decide) (by decide) _ (s1_sign_110 l _ h n i N ho kd fg so hN hsh el hel B hB (p + 1) s (by omega)) _ (fun y => by rw [nmP, if_neg (by rw [y]; decide), if_neg (by rw [y]; decide)]) (fun y => ?_)
  rw [if_pos y]
  exact s1_ps_end l d h n i N ho kd fg so hN hsh el hel B hB (nmP B N (p + 1)) (by omega) s 2 (by decide) (by decide) (by decide)
set_option maxRecDepth 20000 in
set_option maxHeartbeats 4000000 in
theorem s1_ps_0 (l : Launch) (d : Nat) (h : MH) (n i N : Nat) (ho kd fg so : Int32) (hN : N ≤ 100) (hsh : h (62 + 2 * i) = some (.inr (3, shF ho kd fg so (nI N) (63 + 2 * i)))) (el : Nat → Int32) (hel : h (63 + 2 * i) = some (ia 100 el)) (B : Nat → Int32) (hB : ∀ k, k < 100 → B k = el k) (p : Nat) (hp : p < N) (s : Int32) : V l mX1_passStatement (d + 5) 33 [some (.ref 56), some (.ref (1000000 + 0)), some (.int (nI 0))] [] (CR h i (p + 1) s) n 0 0 (Pv (bI (run B N [(48, 57), (97, 108), (48, 54)] (p + 1) (fun q => if inB B N q 97 108 = true then run B N [(97, 108), (48, 54), (59, 59)] q fin1 else run B N [(59, 59)] q fin1)).1) (CR h i (run B N [(48, 57), (97, 108), (48, 54)] (p + 1) (fun q => if inB B N q 97 108 = true then run B N [(97, 108), (48, 54), (59, 59)] q fin1 else run B N [(59, 59)] q fin1)).2 s) n) := by
  refine s1_ps_step l d h n i N ho kd fg so hN hsh el hel B hB _ _ s 0 0 100 (by decide) (by decide) (by decide) (by decide) (by decide) (by decide) _ (s1_sign_100 l _ h n i N ho kd fg so hN hsh el hel B hB (p + 1) s (by omega)) _ (fun y => by rw [run_n y, if_neg (by rw [y]; decide)]) (fun y => ?_)
  rw [run_y y, if_pos y]
  have hb0 := (inB_ex (by omega) (by omega) y).1
  refine s1_ps_step l d h n i N ho kd fg so hN hsh el hel B hB _ _ s 0 1 99 (by decide) (by decide) (by decide) (by decide) (by decide) (by decide) _ (s1_sign_99 l _ h n i N ho kd fg so hN hsh el hel B hB (p + 1 + 1) s (by omega)) _ (fun y => by rw [run_n y, if_neg (by rw [y]; decide)]) (fun y => ?_)
  rw [run_y y, if_pos y]
  have hb1 := (inB_ex (by omega) (by omega) y).1
  refine s1_ps_step l d h n i N ho kd fg so hN hsh el hel B hB _ _ s 0 2 114 (by decide) (by decide) (by decide) (by decide) (by decide) (by decide) _ (s1_sign_114 l _ h n i N ho kd fg so hN hsh el hel B hB (p + 1 + 1 + 1) s (by omega)) _ (fun y => by rw [run_n y, if_neg (by rw [y]; decide)]) (fun y => ?_)
  rw [run_y y, if_pos y]
  have hb2 := (inB_ex (by omega) (by omega) y).1
  rw [run_0]
  refine s1_ps_step l d h n i N ho kd fg so hN hsh el hel B hB _ _ s 0 3 63 (by decide) (by decide) (by decide) (by decide) (by decide) (by decide) _ (s1_sign_63 l _ h n i N ho kd fg so hN hsh el hel B hB (p + 1 + 1 + 1 + 1) s (by omega)) _ (fun y => ?_) (fun y => ?_)
  · cases z : inB B N (p + 1 + 1 + 1 + 1) 97 108 with
    | false => rw [z] at y; cases y
    | true =>
      rw [z, Bool.not_true, Bool.false_or] at y
      rw [if_pos rfl, run_y z, run_n y, if_pos rfl, if_neg (by rw [y]; decide)]
  · cases z : inB B N (p + 1 + 1 + 1 + 1) 97 108 with
    | false =>
      rw [if_neg (by decide), if_neg (by decide)]
      exact s1_ps_end l d h n i N ho kd fg so hN hsh el hel B hB (p + 1 + 1 + 1 + 1) (by omega) s 0 (by decide) (by decide) (by decide)
    | true =>
      rw [z, Bool.not_true, Bool.false_or] at y
      have hz := (inB_ex (by omega) (by omega) z).1
      rw [if_pos rfl, if_pos rfl, run_y z, run_y y, if_pos y]
      exact s1_ps_end l d h n i N ho kd fg so hN hsh el hel B hB (p + 1 + 1 + 1 + 1 + 1 + 1) (by omega) s 0 (by decide) (by decide) (by decide)
set_option maxRecDepth 20000 in
set_option maxHeartbeats 4000000 in
theorem s1_passStatement (l : Launch) : PSt l := by
  intro d h n i N ho kd fg so hN hsh el hel B hB p s hp
  show V _ _ _ _ [some (.ref 56), none, none] _ _ _ _ _ _
  refine V.aload_n dX1_passStatement_0 rfl ?_
  refine V.aload_n dX1_passStatement_1 rfl ?_
  refine V.getf dX1_passStatement_2 fl_X1_18 (CR_56 _ _ _ _) rfl ?_
  refine V.callVv [_] dX1_passStatement_5 lk_X1_32 rfl (Nat.le_of_ble_eq_true rfl) (Nat.le_of_ble_eq_true rfl) (CR_56 _ _ _ _) rfl (s1_byteAt l _ h n i N ho kd fg so hN hsh el hel B hB p s p hp) ?_
  have hlt : (B p).toNatClampNeg = ltr B N p := by rw [ltr, if_pos hp]
  refine V.callS (c := 0) (z := 0) [_] dX1_passStatement_8 lk_X1_36 rfl (Nat.le_of_ble_eq_true rfl) (Nat.le_of_ble_eq_true rfl) (s1_shapeOf l _ _ _ _ _ hlt) (fun r h1 n1 qq => ?_)
  obtain ⟨rfl, rfl, e9⟩ := qq
  rw [e9]
  have hj : shI (ltr B N p) < 6 := by
    unfold shI
    repeat' split
    all_goals omega
  have hl6 : ∀ j, j < 6 → lenS.getD j 0 < 1000 := by decide
  show V l _ _ 11 [some (.ref 56), none, none] [.ref (1000000 + shI (ltr B N p))] _ _ _ _ _
  refine V.ast1 dX1_passStatement_11 (by decide) rfl ?_
  refine V.aload_n dX1_passStatement_12 rfl ?_
  refine V.callVSv [] dX1_passStatement_13 lk_X1_40 rfl (Nat.le_of_ble_eq_true rfl) (Nat.le_of_ble_eq_true rfl) hj rfl (sJ_isEmpty l _ _ _ _ hj (hl6 _ hj)) ?_
  refine V.if_eqB (tgt := 21) dX1_passStatement_16 (by decide) (fun y => ?_) (fun y => ?_)
  · have hne : shI (ltr B N p) ≠ 5 := by
      intro e
      rw [e] at y
      exact absurd y (by decide)
    refine V.aload_n dX1_passStatement_21 rfl ?_
    refine V.dup dX1_passStatement_22 rfl ?_
    refine V.getf dX1_passStatement_23 fl_X1_18 (CR_56 _ _ _ _) rfl ?_
    refine V.iconst (v := nI 1) dX1_passStatement_26 (by decide) ?_
    refine V.iaddN dX1_passStatement_27 ?_
    refine V.putf dX1_passStatement_28 fp_X1_18 (CR_56 _ _ _ _) (Nat.le_of_ble_eq_true rfl) (fun _ => ⟨rfl, rfl⟩) ?_
    change V _ _ _ _ _ _ (hset (CR h i p s) 56 (.inr (1, [.ref (62 + 2 * i), .int (nI (p + 1)), .int s]))) _ _ _ _
    rw [CR_s]
    refine V.iconst (v := nI 0) dX1_passStatement_31 (by decide) ?_
    refine V.ist2 dX1_passStatement_32 (by decide) rfl ?_
    by_cases c0 : ltr B N p = 103
    · rw [show shI (ltr B N p) = 0 from (by rw [c0]; rfl), show stR B N p = _ from if_pos c0]
      exact s1_ps_0 l d h n i N ho kd fg so hN hsh el hel B hB p hp s
    by_cases c1 : ltr B N p = 114 ∨ ltr B N p = 101 ∨ ltr B N p = 102 ∨ ltr B N p = 108
    · rw [show shI (ltr B N p) = 1 from (by rw [shI, if_neg c0, if_pos c1]), show stR B N p = _ from (if_neg c0).trans (if_pos c1)]
      exact s1_ps_1 l d h n i N ho kd fg so hN hsh el hel B hB p hp s
    by_cases c2 : ltr B N p = 116 ∨ ltr B N p = 104
    · rw [show shI (ltr B N p) = 2 from (by rw [shI, if_neg c0, if_neg c1, if_pos c2]), show stR B N p = _ from (if_neg c0).trans ((if_neg c1).trans (if_pos c2))]
      exact s1_ps_2 l d h n i N ho kd fg so hN hsh el hel B hB p hp s
    by_cases c3 : ltr B N p = 112
    · rw [show shI (ltr B N p) = 3 from (by rw [shI, if_neg c0, if_neg c1, if_neg c2, if_pos c3]), show stR B N p = _ from (if_neg c0).trans ((if_neg c1).trans ((if_neg c2).trans (if_pos c3)))]
      exact s1_ps_3 l d h n i N ho kd fg so hN hsh el hel B hB p hp s
    by_cases c4 : ltr B N p = 99
    · rw [show shI (ltr B N p) = 4 from (by rw [shI, if_neg c0, if_neg c1, if_neg c2, if_neg c3, if_pos c4]), show stR B N p = _ from (if_neg c0).trans ((if_neg c1).trans ((if_neg c2).trans ((if_neg c3).trans (if_pos c4))))]
      exact s1_ps_4 l d h n i N ho kd fg so hN hsh el hel B hB p hp s
    · exact absurd (by rw [shI, if_neg c0, if_neg c1, if_neg c2, if_neg c3, if_neg c4]) hne
  · have e5 : shI (ltr B N p) = 5 := by
      have q := of_decide_eq_true y
      have key : ∀ j, j < 6 → lenS.getD j 0 = 0 → j = 5 := by decide
      exact key _ hj q
    have c : ¬ ltr B N p = 103 ∧ ¬ (ltr B N p = 114 ∨ ltr B N p = 101 ∨ ltr B N p = 102 ∨ ltr B N p = 108) ∧ ¬ (ltr B N p = 116 ∨ ltr B N p = 104) ∧ ¬ ltr B N p = 112 ∧ ¬ ltr B N p = 99 := by
      unfold shI at e5
      repeat' split at e5
      all_goals omega
    rw [show stR B N p = (false, p) from (if_neg c.1).trans ((if_neg c.2.1).trans ((if_neg c.2.2.1).trans ((if_neg c.2.2.2.1).trans (if_neg c.2.2.2.2))))]
    refine V.iconst (v := nI 0) dX1_passStatement_19 (by decide) ?_
    exact V.iret (by exact dX1_passStatement_20) rfl (bI_narrow false) ⟨rfl, rfl, rfl⟩
