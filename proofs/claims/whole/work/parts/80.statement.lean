set_option maxRecDepth 20000 in
set_option maxHeartbeats 4000000 in
theorem s6_takesE (l : Launch) (d : Nat) (h : MH) (n : Nat) (b0 : Bool) (th : Int32) (i N : Nat) (hi : i < 8) (hN : N ≤ 100) (X : Nat → Int32) (hx : h 86 = some (ia 800 X)) (B : Nat → Int32) (hB : ∀ k, k < 100 → B k = X (100 * i + k)) (p t : Nat) (NB : Nat → Int32) (hp : p < 1000) (c : Nat) (hc : c < 1000) : Sp l mX6_takes (d + 1) [.ref 78, .int (nI c)] (RH h b0 th i N p t NB) n 0 0 (Pv (bI (inB B N p c c)) (RH h b0 th i N (if inB B N p c c = true then p + 1 else p) t NB) n) := by
  show V _ _ _ _ [some (.ref 78), some (.int (nI c))] _ _ _ _ _ _
  refine V.aload_n dX6_takes_0 rfl ?_
  refine V.callVv [] dX6_takes_1 lk_X6_99 rfl (Nat.le_of_ble_eq_true rfl) (Nat.le_of_ble_eq_true rfl) (RH_78 _ _ _ _ _ _ _ _) rfl (s6_here l _ h n b0 th i N hi hN X hx B hB p _ _ hp) ?_
  refine V.iload_n dX6_takes_4 rfl ?_
  refine V.icmp_eq (tgt := 10) dX6_takes_5 (by decide) (fun q => ?_) (fun q => ?_)
  · have q1 := (hb_eq hc).mp q
    rw [q1, if_pos rfl]
    refine V.aload_n dX6_takes_10 rfl ?_
    refine V.dup dX6_takes_11 rfl ?_
    refine V.getf dX6_takes_12 fl_X6_90 (RH_78 _ _ _ _ _ _ _ _) rfl ?_
    refine V.iconst (v := nI 1) dX6_takes_15 (by decide) ?_
    refine V.iaddN dX6_takes_16 ?_
    refine V.putf dX6_takes_17 fp_X6_90 (RH_78 _ _ _ _ _ _ _ _) (Nat.le_of_ble_eq_true rfl) (fun _ => ⟨rfl, rfl⟩) ?_
    change V _ _ _ _ _ _ (hset (RH h b0 th i N (p) t NB) 78 (.inr (6, moF b0 th (nI (p + 1)) (nI (100 * i)) (nI N) (nI t)))) _ _ _ _
    rw [RH_s78]
    refine V.iconst (v := nI 1) dX6_takes_20 (by decide) ?_
    exact V.iret (by exact dX6_takes_21) rfl (bI_narrow true) ⟨rfl, rfl, rfl⟩
  · have q1 : inB B N p c c = false := by
      cases y : inB B N p c c with
      | false => rfl
      | true => exact absurd ((hb_eq hc).mpr y) q
    rw [q1, if_neg (by decide)]
    refine V.iconst (v := nI 0) dX6_takes_8 (by decide) ?_
    exact V.iret (by exact dX6_takes_9) rfl (bI_narrow false) ⟨rfl, rfl, rfl⟩
theorem run_0 {B : Nat → Int32} {N p : Nat} {k : Nat → Bool × Nat} : run B N [] p k = k p := rfl
set_option maxRecDepth 20000 in
set_option maxHeartbeats 4000000 in
theorem s6_readsSt_103 (l : Launch) (d : Nat) (h : MH) (n : Nat) (b0 : Bool) (th : Int32) (i N : Nat) (hi : i < 8) (hN : N ≤ 100) (X : Nat → Int32) (hx : h 86 = some (ia 800 X)) (B : Nat → Int32) (hB : ∀ k, k < 100 → B k = X (100 * i + k)) (p t : Nat) (NB : Nat → Int32) (hp : p < N) (hl : ltr B N p = 103) : V l mX6_readsStatement (d + 4) 96 [some (.ref 78), some (.int (nI 103))] [] (RH h b0 th i N p 0 NB) n 0 0 (Rq h b0 th i N (stR B N p).1 (stR B N p).2 (Sg B 103 p (stR B N p).2) n) := by
  refine V.aload_n dX6_readsStatement_96 rfl ?_
  refine V.dup dX6_readsStatement_97 rfl ?_
  refine V.getf dX6_readsStatement_98 fl_X6_90 (RH_78 _ _ _ _ _ _ _ _) rfl ?_
  refine V.iconst (v := nI 1) dX6_readsStatement_101 (by decide) ?_
  refine V.iaddN dX6_readsStatement_102 ?_
  refine V.putf dX6_readsStatement_103 fp_X6_90 (RH_78 _ _ _ _ _ _ _ _) (Nat.le_of_ble_eq_true rfl) (fun _ => ⟨rfl, rfl⟩) ?_
  change V _ _ _ _ _ _ (hset (RH h b0 th i N (p) 0 NB) 78 (.inr (6, moF b0 th (nI (p + 1)) (nI (100 * i)) (nI N) (nI 0)))) _ _ _ _
  rw [RH_s78]
  refine V.aload_n dX6_readsStatement_106 rfl ?_
  refine V.callRq [] dX6_readsStatement_107 lk_X6_110 rfl (Nat.le_of_ble_eq_true rfl) (Nat.le_of_ble_eq_true rfl) rfl (s6_readsDigit l _ h n b0 th i N hi hN X hx B hB (p + 1) 0 NB (by omega) (by omega)) (fun t1 NB1 g1 => ?_)
  refine V.if_eqB (tgt := 120) dX6_readsStatement_110 (by decide) (fun q1 => ?_) (fun q1 => ?_)
  · rw [if_neg (show ¬ inB B N (p + 1) 48 57 = true by rw [q1]; decide)]
    rw [show stR B N p = (false, p + 1) from by rw [show stR B N p = run B N [(48, 57), (97, 108), (48, 54)] (p + 1) (fun q => if inB B N q 97 108 = true then run B N [(97, 108), (48, 54), (59, 59)] q fin1 else run B N [(59, 59)] q fin1) from by (rw [stR, hl]; rfl), run_n q1]]
    refine V.iconst (v := nI 0) dX6_readsStatement_120 (by decide) ?_
    exact V.iret (by exact dX6_readsStatement_121) rfl (bI_narrow false) ⟨rfl, rfl, t1, NB1, rfl, fun y => by cases y⟩
  obtain ⟨rfl, e1, f1⟩ := g1 q1
  rw [if_pos q1]
  have i1 := dgt9 q1
  have n1 := (inB_ex (by omega) (by omega) q1).1
  refine V.aload_n dX6_readsStatement_113 rfl ?_
  refine V.callRq [] dX6_readsStatement_114 lk_X6_118 rfl (Nat.le_of_ble_eq_true rfl) (Nat.le_of_ble_eq_true rfl) rfl (s6_readsCell l _ h n b0 th i N hi hN X hx B hB (p + 1 + 1) 1 NB1 (by omega) (by omega)) (fun t2 NB2 g2 => ?_)
  refine V.if_neB (tgt := 122) dX6_readsStatement_117 (by decide) (fun q2 => ?_) (fun q2 => ?_)
  rotate_left
  · skip
    rw [show stR B N p = (false, clP B N (p + 1 + 1)) from by rw [show stR B N p = run B N [(48, 57), (97, 108), (48, 54)] (p + 1) (fun q => if inB B N q 97 108 = true then run B N [(97, 108), (48, 54), (59, 59)] q fin1 else run B N [(59, 59)] q fin1) from by (rw [stR, hl]; rfl), run_y q1, run_cn q2]]
    refine V.iconst (v := nI 0) dX6_readsStatement_120 (by decide) ?_
    exact V.iret (by exact dX6_readsStatement_121) rfl (bI_narrow false) ⟨rfl, rfl, t2, NB2, rfl, fun y => by cases y⟩
  obtain ⟨rfl, e2, f2⟩ := g2 q2
  rw [clP_y q2]
  have i2 := ce_lt q2
  have n2 := (inB_ex (by omega) (by omega) (show inB B N _ 97 108 = true from (Bool.and_eq_true _ _ ▸ q2 : _ ∧ _).1)).1
  refine V.aload_n dX6_readsStatement_122 rfl ?_
  refine V.getf dX6_readsStatement_123 fl_X6_40 (RH_78 _ _ _ _ _ _ _ _) rfl ?_
  refine V.iconst (v := nI 2) dX6_readsStatement_126 (by decide) ?_
  refine V.aload_n dX6_readsStatement_127 rfl ?_
  refine V.getf dX6_readsStatement_128 fl_X6_40 (RH_78 _ _ _ _ _ _ _ _) rfl ?_
  refine V.iconst (v := nI 1) dX6_readsStatement_131 (by decide) ?_
  refine V.ialdN dX6_readsStatement_132 (RH_89 _ _ _ _ _ _ _ _) (by omega) (by decide) ?_
  rw [show NB2 1 = nI (ce B (p + 1 + 1)) from e2]
  refine V.iastN dX6_readsStatement_133 (RH_89 _ _ _ _ _ _ _ _) (by omega) (by decide) ?_
  change V _ _ _ _ _ _ (hset (RH h b0 th i N (p + 1 + 1 + 1 + 1) (0 + 1 + 1) NB2) 89 (ia 6 (upd NB2 2 (nI (ce B (p + 1 + 1)))))) _ _ _ _
  rw [RH_s89]
  generalize hM : upd NB2 2 (nI (ce B (p + 1 + 1))) = M
  have m0 : M 0 = nI (dgt B 48 (p + 1)) := by rw [← hM, pk_un (by omega)]; exact (f2 0 (by omega)).trans e1
  have m1 : M 1 = nI (ce B (p + 1 + 1)) := by rw [← hM, pk_un (by omega)]; exact e2
  have m2 : M 2 = nI (ce B (p + 1 + 1)) := by rw [← hM, pk_us]
  refine V.aload_n dX6_readsStatement_134 rfl ?_
  refine V.bipush (v := nI 59) dX6_readsStatement_135 (by decide) ?_
  refine V.callVv [_] dX6_readsStatement_137 lk_X6_121 rfl (Nat.le_of_ble_eq_true rfl) (Nat.le_of_ble_eq_true rfl) (RH_78 _ _ _ _ _ _ _ _) rfl (s6_takesE l _ h n b0 th i N hi hN X hx B hB (p + 1 + 1 + 1 + 1) (0 + 1 + 1) M (by omega) 59 (by omega)) ?_
  refine V.if_neB (tgt := 159) dX6_readsStatement_140 (by decide) (fun q3 => ?_) (fun q3 => ?_)
  · rw [if_pos q3, show stR B N p = (true, p + 1 + 1 + 1 + 1 + 1) from by rw [show stR B N p = run B N [(48, 57), (97, 108), (48, 54)] (p + 1) (fun q => if inB B N q 97 108 = true then run B N [(97, 108), (48, 54), (59, 59)] q fin1 else run B N [(59, 59)] q fin1) from by (rw [stR, hl]; rfl), run_y q1, run_cy q2, run_0, if_neg (by rw [inB_sep q3]; decide), run_y q3]; rfl]
    refine V.iconst (v := nI 1) dX6_readsStatement_159 (by decide) ?_
    refine V.goto (tgt := 164) dX6_readsStatement_160 (by decide) ?_
    have hv : ∀ j, j < 3 → M j = nI (nbs B 103 p (p + 1 + 1 + 1 + 1 + 1) j) := fun j hj => by
      rcases (show j = 0 ∨ j = 1 ∨ j = 2 by omega) with rfl | rfl | rfl
      · exact m0
      · exact m1
      · exact m2.trans (congrArg nI (show ce B (p + 1 + 1) = ce B (p + 1 + 1 + 1 + 1 + 1 - 3) from rfl))
    refine V.iret (by exact dX6_readsStatement_164) rfl (bI_narrow true) ⟨rfl, rfl, _, M, rfl, fun _ => ⟨gb M 3 (nbs B 103 p (p + 1 + 1 + 1 + 1 + 1)), fun j _ => gb_is hv j, Or.inl ⟨rfl, by rw [gb_lo (by omega)]; exact i1, by rw [gb_lo (by omega)]; exact i2, by rw [gb_lo (by omega)]; show ce B (p + 1 + 1 + 1 + 1 + 1 - 3) < 84; rw [← (show ce B (p + 1 + 1) = ce B (p + 1 + 1 + 1 + 1 + 1 - 3) from rfl)]; exact i2⟩, cm_3 (gb_lo (by omega)) (gb_lo (by omega)) (gb_lo (by omega))⟩⟩
  rw [if_neg (show ¬ inB B N (p + 1 + 1 + 1 + 1) 59 59 = true by rw [q3]; decide)]
  refine V.aload_n dX6_readsStatement_143 rfl ?_
  refine V.callRq [] dX6_readsStatement_144 lk_X6_118 rfl (Nat.le_of_ble_eq_true rfl) (Nat.le_of_ble_eq_true rfl) rfl (s6_readsCell l _ h n b0 th i N hi hN X hx B hB (p + 1 + 1 + 1 + 1) (0 + 1 + 1) M (by omega) (by omega)) (fun t4 NB4 g4 => ?_)
  refine V.if_eqB (tgt := 163) dX6_readsStatement_147 (by decide) (fun q4 => ?_) (fun q4 => ?_)
  · have e : stR B N p = (false, clP B N (p + 1 + 1 + 1 + 1)) := by
      rw [show stR B N p = run B N [(48, 57), (97, 108), (48, 54)] (p + 1) (fun q => if inB B N q 97 108 = true then run B N [(97, 108), (48, 54), (59, 59)] q fin1 else run B N [(59, 59)] q fin1) from by (rw [stR, hl]; rfl), run_y q1, run_cy q2, run_0]
      by_cases z : inB B N (p + 1 + 1 + 1 + 1) 97 108 = true
      · rw [if_pos z, run_cn q4]
      · rw [if_neg z, run_n q3, clP, if_neg z]
    rw [e]
    refine V.iconst (v := nI 0) dX6_readsStatement_163 (by decide) ?_
    exact V.iret (by exact dX6_readsStatement_164) rfl (bI_narrow false) ⟨rfl, rfl, t4, NB4, rfl, fun y => by cases y⟩
  obtain ⟨rfl, e4, f4⟩ := g4 q4
  rw [clP_y q4]
  have i4 := ce_lt q4
  have q40 : inB B N (p + 1 + 1 + 1 + 1) 97 108 = true := (Bool.and_eq_true _ _ ▸ q4 : _ ∧ _).1
  have n4 := (inB_ex (by omega) (by omega) q40).1
  refine V.aload_n dX6_readsStatement_150 rfl ?_
  refine V.bipush (v := nI 59) dX6_readsStatement_151 (by decide) ?_
  refine V.callVv [_] dX6_readsStatement_153 lk_X6_121 rfl (Nat.le_of_ble_eq_true rfl) (Nat.le_of_ble_eq_true rfl) (RH_78 _ _ _ _ _ _ _ _) rfl (s6_takesE l _ h n b0 th i N hi hN X hx B hB (p + 1 + 1 + 1 + 1 + 1 + 1) (0 + 1 + 1 + 1) NB4 (by omega) 59 (by omega)) ?_
  refine V.if_eqB (tgt := 163) dX6_readsStatement_156 (by decide) (fun q5 => ?_) (fun q5 => ?_)
  · rw [if_neg (show ¬ inB B N (p + 1 + 1 + 1 + 1 + 1 + 1) 59 59 = true by rw [q5]; decide), show stR B N p = (false, p + 1 + 1 + 1 + 1 + 1 + 1) from by rw [show stR B N p = run B N [(48, 57), (97, 108), (48, 54)] (p + 1) (fun q => if inB B N q 97 108 = true then run B N [(97, 108), (48, 54), (59, 59)] q fin1 else run B N [(59, 59)] q fin1) from by (rw [stR, hl]; rfl), run_y q1, run_cy q2, run_0, if_pos q40, run_cy q4, run_n q5]]
    refine V.iconst (v := nI 0) dX6_readsStatement_163 (by decide) ?_
    exact V.iret (by exact dX6_readsStatement_164) rfl (bI_narrow false) ⟨rfl, rfl, _, NB4, rfl, fun y => by cases y⟩
  · rw [if_pos q5, show stR B N p = (true, p + 1 + 1 + 1 + 1 + 1 + 1 + 1) from by rw [show stR B N p = run B N [(48, 57), (97, 108), (48, 54)] (p + 1) (fun q => if inB B N q 97 108 = true then run B N [(97, 108), (48, 54), (59, 59)] q fin1 else run B N [(59, 59)] q fin1) from by (rw [stR, hl]; rfl), run_y q1, run_cy q2, run_0, if_pos q40, run_cy q4, run_y q5]; rfl]
    refine V.iconst (v := nI 1) dX6_readsStatement_159 (by decide) ?_
    refine V.goto (tgt := 164) dX6_readsStatement_160 (by decide) ?_
    have hv : ∀ j, j < 3 → NB4 j = nI (nbs B 103 p (p + 1 + 1 + 1 + 1 + 1 + 1 + 1) j) := fun j hj => by
      rcases (show j = 0 ∨ j = 1 ∨ j = 2 by omega) with rfl | rfl | rfl
      · exact ((f4 0 (by omega)).trans m0)
      · exact ((f4 1 (by omega)).trans m1)
      · exact e4.trans (congrArg nI (show ce B (p + 1 + 1 + 1 + 1) = ce B (p + 1 + 1 + 1 + 1 + 1 + 1 + 1 - 3) from rfl))
    refine V.iret (by exact dX6_readsStatement_164) rfl (bI_narrow true) ⟨rfl, rfl, _, NB4, rfl, fun _ => ⟨gb NB4 3 (nbs B 103 p (p + 1 + 1 + 1 + 1 + 1 + 1 + 1)), fun j _ => gb_is hv j, Or.inl ⟨rfl, by rw [gb_lo (by omega)]; exact i1, by rw [gb_lo (by omega)]; exact i2, by rw [gb_lo (by omega)]; show ce B (p + 1 + 1 + 1 + 1 + 1 + 1 + 1 - 3) < 84; rw [← (show ce B (p + 1 + 1 + 1 + 1) = ce B (p + 1 + 1 + 1 + 1 + 1 + 1 + 1 - 3) from rfl)]; exact i4⟩, cm_3 (gb_lo (by omega)) (gb_lo (by omega)) (gb_lo (by omega))⟩⟩
set_option maxRecDepth 20000 in
set_option maxHeartbeats 4000000 in
theorem s6_readsStatement (l : Launch) (d : Nat) (h : MH) (n : Nat) (b0 : Bool) (th : Int32) (i N : Nat) (hi : i < 8) (hN : N ≤ 100) (X : Nat → Int32) (hx : h 86 = some (ia 800 X)) (B : Nat → Int32) (hB : ∀ k, k < 100 → B k = X (100 * i + k)) (p t : Nat) (NB : Nat → Int32) (hp : p < 1000) : Sp l mX6_readsStatement (d + 4) [.ref 78] (RH h b0 th i N p t NB) n 0 0 (Rq h b0 th i N (stR B N p).1 (stR B N p).2 (Sg B (ltr B N p) p (stR B N p).2) n) := by
  show V _ _ _ _ [some (.ref 78), none] _ _ _ _ _ _
  refine V.aload_n dX6_readsStatement_0 rfl ?_
  refine V.callVv [] dX6_readsStatement_1 lk_X6_99 rfl (Nat.le_of_ble_eq_true rfl) (Nat.le_of_ble_eq_true rfl) (RH_78 _ _ _ _ _ _ _ _) rfl (s6_here l _ h n b0 th i N hi hN X hx B hB p _ _ hp) ?_
  refine V.ist1 dX6_readsStatement_4 (by decide) rfl ?_
  refine V.aload_n dX6_readsStatement_5 rfl ?_
  refine V.iconst (v := nI 0) dX6_readsStatement_6 (by decide) ?_
  refine V.putf dX6_readsStatement_7 fp_X6_103 (RH_78 _ _ _ _ _ _ _ _) (Nat.le_of_ble_eq_true rfl) (fun _ => ⟨rfl, rfl⟩) ?_
  change V _ _ _ _ _ _ (hset (RH h b0 th i N p t NB) 78 (.inr (6, moF b0 th (nI p) (nI (100 * i)) (nI N) (nI 0)))) _ _ _ _
  rw [RH_s78]
  refine V.iload_n dX6_readsStatement_10 rfl ?_
  have nol : ¬ (ltr B N p = 103 ∨ ltr B N p = 114 ∨ ltr B N p = 101 ∨ ltr B N p = 102 ∨ ltr B N p = 108 ∨ ltr B N p = 116 ∨ ltr B N p = 104 ∨ ltr B N p = 112 ∨ ltr B N p = 99) → ∀ v, V l mX6_readsStatement (d + 4) 335 [some (.ref 78), v] [] (RH h b0 th i N p 0 NB) n 0 0 (Rq h b0 th i N (stR B N p).1 (stR B N p).2 (Sg B (ltr B N p) p (stR B N p).2) n) := fun e v => by
    rw [show stR B N p = (false, p) from by (rw [stR, if_neg (by omega), if_neg (by omega), if_neg (by omega), if_neg (by omega), if_neg (by omega)])]
    refine V.iconst (v := nI 0) dX6_readsStatement_335 (by decide) ?_
    exact V.iret (by exact dX6_readsStatement_336) rfl (bI_narrow false) ⟨rfl, rfl, 0, NB, rfl, fun y => by cases y⟩
  generalize hj0 : hb B N p = xx
  rcases sw_cases xx 99 116 (by decide) with ⟨jx, hj1, hj2, rfl⟩ | hxx
  · have hjx : jx = 99 ∨ jx = 100 ∨ jx = 101 ∨ jx = 102 ∨ jx = 103 ∨ jx = 104 ∨ jx = 105 ∨ jx = 106 ∨ jx = 107 ∨ jx = 108 ∨ jx = 109 ∨ jx = 110 ∨ jx = 111 ∨ jx = 112 ∨ jx = 113 ∨ jx = 114 ∨ jx = 115 ∨ jx = 116 := by omega
    rcases hjx with rfl | rfl | rfl | rfl | rfl | rfl | rfl | rfl | rfl | rfl | rfl | rfl | rfl | rfl | rfl | rfl | rfl | rfl
    · refine V.tableIn (off := 271) (tgt := 282) dX6_readsStatement_11 (by decide) (by decide) rfl (by decide) ?_
      obtain ⟨hpN, hl⟩ := ltr_in (by omega) (by omega) hj0
      rw [hl]
      exact s6_readsSt_99 l d h n b0 th i N hi hN X hx B hB p t NB hpN hl
    · refine V.tableIn (off := 324) (tgt := 335) dX6_readsStatement_11 (by decide) (by decide) rfl (by decide) ?_
      obtain ⟨hpN, hl⟩ := ltr_in (by omega) (by omega) hj0
      exact nol (by rw [hl]; decide) _
    · refine V.tableIn (off := 154) (tgt := 165) dX6_readsStatement_11 (by decide) (by decide) rfl (by decide) ?_
      obtain ⟨hpN, hl⟩ := ltr_in (by omega) (by omega) hj0
      rw [hl]
      exact s6_readsSt_101 l d h n b0 th i N hi hN X hx B hB p t NB hpN hl
    · refine V.tableIn (off := 154) (tgt := 165) dX6_readsStatement_11 (by decide) (by decide) rfl (by decide) ?_
      obtain ⟨hpN, hl⟩ := ltr_in (by omega) (by omega) hj0
      rw [hl]
      exact s6_readsSt_102 l d h n b0 th i N hi hN X hx B hB p t NB hpN hl
    · refine V.tableIn (off := 85) (tgt := 96) dX6_readsStatement_11 (by decide) (by decide) rfl (by decide) ?_
      obtain ⟨hpN, hl⟩ := ltr_in (by omega) (by omega) hj0
      rw [hl]
      exact s6_readsSt_103 l d h n b0 th i N hi hN X hx B hB p t NB hpN hl
    · refine V.tableIn (off := 186) (tgt := 197) dX6_readsStatement_11 (by decide) (by decide) rfl (by decide) ?_
      obtain ⟨hpN, hl⟩ := ltr_in (by omega) (by omega) hj0
      rw [hl]
      exact s6_readsSt_104 l d h n b0 th i N hi hN X hx B hB p t NB hpN hl
    · refine V.tableIn (off := 324) (tgt := 335) dX6_readsStatement_11 (by decide) (by decide) rfl (by decide) ?_
      obtain ⟨hpN, hl⟩ := ltr_in (by omega) (by omega) hj0
      exact nol (by rw [hl]; decide) _
    · refine V.tableIn (off := 324) (tgt := 335) dX6_readsStatement_11 (by decide) (by decide) rfl (by decide) ?_
      obtain ⟨hpN, hl⟩ := ltr_in (by omega) (by omega) hj0
      exact nol (by rw [hl]; decide) _
    · refine V.tableIn (off := 324) (tgt := 335) dX6_readsStatement_11 (by decide) (by decide) rfl (by decide) ?_
      obtain ⟨hpN, hl⟩ := ltr_in (by omega) (by omega) hj0
      exact nol (by rw [hl]; decide) _
    · refine V.tableIn (off := 154) (tgt := 165) dX6_readsStatement_11 (by decide) (by decide) rfl (by decide) ?_
      obtain ⟨hpN, hl⟩ := ltr_in (by omega) (by omega) hj0
      rw [hl]
      exact s6_readsSt_108 l d h n b0 th i N hi hN X hx B hB p t NB hpN hl
    · refine V.tableIn (off := 324) (tgt := 335) dX6_readsStatement_11 (by decide) (by decide) rfl (by decide) ?_
      obtain ⟨hpN, hl⟩ := ltr_in (by omega) (by omega) hj0
      exact nol (by rw [hl]; decide) _
    · refine V.tableIn (off := 324) (tgt := 335) dX6_readsStatement_11 (by decide) (by decide) rfl (by decide) ?_
      obtain ⟨hpN, hl⟩ := ltr_in (by omega) (by omega) hj0
      exact nol (by rw [hl]; decide) _
    · refine V.tableIn (off := 324) (tgt := 335) dX6_readsStatement_11 (by decide) (by decide) rfl (by decide) ?_
      obtain ⟨hpN, hl⟩ := ltr_in (by omega) (by omega) hj0
      exact nol (by rw [hl]; decide) _
    · refine V.tableIn (off := 218) (tgt := 229) dX6_readsStatement_11 (by decide) (by decide) rfl (by decide) ?_
      obtain ⟨hpN, hl⟩ := ltr_in (by omega) (by omega) hj0
      rw [hl]
      exact s6_readsSt_112 l d h n b0 th i N hi hN X hx B hB p t NB hpN hl
    · refine V.tableIn (off := 324) (tgt := 335) dX6_readsStatement_11 (by decide) (by decide) rfl (by decide) ?_
      obtain ⟨hpN, hl⟩ := ltr_in (by omega) (by omega) hj0
      exact nol (by rw [hl]; decide) _
    · refine V.tableIn (off := 154) (tgt := 165) dX6_readsStatement_11 (by decide) (by decide) rfl (by decide) ?_
      obtain ⟨hpN, hl⟩ := ltr_in (by omega) (by omega) hj0
      rw [hl]
      exact s6_readsSt_114 l d h n b0 th i N hi hN X hx B hB p t NB hpN hl
    · refine V.tableIn (off := 324) (tgt := 335) dX6_readsStatement_11 (by decide) (by decide) rfl (by decide) ?_
      obtain ⟨hpN, hl⟩ := ltr_in (by omega) (by omega) hj0
      exact nol (by rw [hl]; decide) _
    · refine V.tableIn (off := 186) (tgt := 197) dX6_readsStatement_11 (by decide) (by decide) rfl (by decide) ?_
      obtain ⟨hpN, hl⟩ := ltr_in (by omega) (by omega) hj0
      rw [hl]
      exact s6_readsSt_116 l d h n b0 th i N hi hN X hx B hB p t NB hpN hl
  · refine V.tableOut (tgt := 335) dX6_readsStatement_11 hxx (by decide) ?_
    rw [← hj0] at hxx
    have hlo := ltr_out hxx
    exact nol (by omega) _
