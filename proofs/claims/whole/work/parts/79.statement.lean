/-- the numbers told, and what lies behind them -/
def gb (NB : Nat → Int32) (t : Nat) (v : Nat → Nat) (j : Nat) : Nat := if j < t then v j else (NB j).toUInt32.toNat
theorem gb_is {NB : Nat → Int32} {t : Nat} {v : Nat → Nat} (h : ∀ j, j < t → NB j = nI (v j)) (j : Nat) : NB j = nI (gb NB t v j) := by
  unfold gb
  split
  · exact h j (by assumption)
  · rw [nI_all]
theorem gb_lo {NB : Nat → Int32} {t : Nat} {v : Nat → Nat} {j : Nat} (h : j < t) : gb NB t v j = v j := if_pos h
/-- what a statement's reading leaves -/
def Sg (B : Nat → Int32) (c p e : Nat) : Nat → (Nat → Int32) → Prop := fun _ NB => ∃ nb : Nat → Nat, (∀ j, j < 4 → NB j = nI (nb j)) ∧ LtOk c nb ∧ ∀ K m, cmE c nb K m = cmE c (nbs B c p e) K m
theorem cm_1 {c : Nat} {a b : Nat → Nat} (hc : c = 114 ∨ c = 101 ∨ c = 102 ∨ c = 108 ∨ c = 116 ∨ c = 104) (h : a 0 = b 0) (K : KK) (m : Nat) : cmE c a K m = cmE c b K m := by
  unfold cmE
  rcases hc with rfl | rfl | rfl | rfl | rfl | rfl <;> simp [h]
theorem cm_3 {a b : Nat → Nat} (h0 : a 0 = b 0) (h1 : a 1 = b 1) (h2 : a 2 = b 2) (K : KK) (m : Nat) : cmE 103 a K m = cmE 103 b K m := by
  unfold cmE
  rw [h0, h1, h2, if_pos rfl, if_pos rfl]
theorem cm_4 {c : Nat} {a b : Nat → Nat} (hc : c = 112 ∨ c = 99) (h0 : a 0 = b 0) (h1 : a 1 = b 1) (h2 : a 2 = b 2) (h3 : a 3 = b 3) (K : KK) (m : Nat) : cmE c a K m = cmE c b K m := by
  unfold cmE
  rcases hc with rfl | rfl <;> simp [h0, h1, h2, h3]
theorem nuV_lt {B : Nat → Int32} {N p : Nat} (h : inB B N p 48 57 = true) : p + 1 ≤ nmP B N p ∧ nuV B p (nmP B N p - p) < 1000 := by
  have h0 := (inB_ex (by omega) (by omega) h).2.2.2
  have u1 : nuV B p 1 = dgt B 48 p := by rw [nuV, nuV]; simp
  have u2 : nuV B p 2 = 10 * nuV B p 1 + dgt B 48 (p + 1) := by rw [nuV]
  have u3 : nuV B p 3 = 10 * nuV B p 2 + dgt B 48 (p + 2) := by rw [nuV]
  rw [nmP, if_pos h]
  split
  · rw [show p + 1 - p = 1 by omega]; omega
  · split
    · next a =>
      have h1 := (inB_ex (by omega) (by omega) a).2.2.2
      split
      · next b =>
        have h2 := (inB_ex (by omega) (by omega) b).2.2.2
        rw [show p + 3 - p = 3 by omega]; omega
      · rw [show p + 2 - p = 2 by omega]; omega
    · rw [show p + 1 - p = 1 by omega]; omega
theorem inB_sep {B : Nat → Int32} {N p : Nat} (h : inB B N p 59 59 = true) : inB B N p 97 108 = false := by
  cases q : inB B N p 97 108 with
  | false => rfl
  | true =>
    have a := inB_ex (by omega) (by omega) h
    have b := inB_ex (by omega) (by omega) q
    have e := a.2.2.1.symm.trans b.2.2.1
    have e2 := (nI_eq (by omega) (by omega)).mp e
    omega
theorem dgt9 {B : Nat → Int32} {N p : Nat} (h : inB B N p 48 57 = true) : dgt B 48 p < 10 := by
  have := (inB_ex (by omega) (by omega) h).2.2.2
  omega
set_option maxRecDepth 20000 in
set_option maxHeartbeats 4000000 in
theorem s6_readsSt_114 (l : Launch) (d : Nat) (h : MH) (n : Nat) (b0 : Bool) (th : Int32) (i N : Nat) (hi : i < 8) (hN : N ≤ 100) (X : Nat → Int32) (hx : h 86 = some (ia 800 X)) (B : Nat → Int32) (hB : ∀ k, k < 100 → B k = X (100 * i + k)) (p t : Nat) (NB : Nat → Int32) (hp : p < N) (hl : ltr B N p = 114) : V l mX6_readsStatement (d + 4) 165 [some (.ref 78), some (.int (nI 114))] [] (RH h b0 th i N p 0 NB) n 0 0 (Rq h b0 th i N (stR B N p).1 (stR B N p).2 (Sg B 114 p (stR B N p).2) n) := by
  refine V.aload_n dX6_readsStatement_165 rfl ?_
  refine V.dup dX6_readsStatement_166 rfl ?_
  refine V.getf dX6_readsStatement_167 fl_X6_90 (RH_78 _ _ _ _ _ _ _ _) rfl ?_
  refine V.iconst (v := nI 1) dX6_readsStatement_170 (by decide) ?_
  refine V.iaddN dX6_readsStatement_171 ?_
  refine V.putf dX6_readsStatement_172 fp_X6_90 (RH_78 _ _ _ _ _ _ _ _) (Nat.le_of_ble_eq_true rfl) (fun _ => ⟨rfl, rfl⟩) ?_
  change V _ _ _ _ _ _ (hset (RH h b0 th i N (p) 0 NB) 78 (.inr (6, moF b0 th (nI (p + 1)) (nI (100 * i)) (nI N) (nI 0)))) _ _ _ _
  rw [RH_s78]
  refine V.aload_n dX6_readsStatement_175 rfl ?_
  refine V.callRq [] dX6_readsStatement_176 lk_X6_110 rfl (Nat.le_of_ble_eq_true rfl) (Nat.le_of_ble_eq_true rfl) rfl (s6_readsDigit l _ h n b0 th i N hi hN X hx B hB (p + 1) 0 NB (by omega) (by omega)) (fun t1 NB1 g1 => ?_)
  refine V.if_eqB (tgt := 195) dX6_readsStatement_179 (by decide) (fun q1 => ?_) (fun q1 => ?_)
  · rw [if_neg (show ¬ inB B N (p + 1) 48 57 = true by rw [q1]; decide)]
    rw [show stR B N p = (false, p + 1) from by rw [show stR B N p = run B N [(48, 57), (59, 59)] (p + 1) fin1 from by (rw [stR, hl]; rfl), run_n q1]]
    refine V.iconst (v := nI 0) dX6_readsStatement_195 (by decide) ?_
    exact V.iret (by exact dX6_readsStatement_196) rfl (bI_narrow false) ⟨rfl, rfl, t1, NB1, rfl, fun y => by cases y⟩
  obtain ⟨rfl, e1, f1⟩ := g1 q1
  rw [if_pos q1]
  have i1 := dgt9 q1
  have n1 := (inB_ex (by omega) (by omega) q1).1
  refine V.aload_n dX6_readsStatement_182 rfl ?_
  refine V.bipush (v := nI 59) dX6_readsStatement_183 (by decide) ?_
  refine V.callRq [_] dX6_readsStatement_185 lk_X6_121 rfl (Nat.le_of_ble_eq_true rfl) (Nat.le_of_ble_eq_true rfl) rfl (s6_takes l _ h n b0 th i N hi hN X hx B hB (p + 1 + 1) 1 NB1 (by omega) 59 (by omega)) (fun t2 NB2 g2 => ?_)
  refine V.if_eqB (tgt := 195) dX6_readsStatement_188 (by decide) (fun q2 => ?_) (fun q2 => ?_)
  · rw [if_neg (show ¬ inB B N (p + 1 + 1) 59 59 = true by rw [q2]; decide)]
    rw [show stR B N p = (false, p + 1 + 1) from by rw [show stR B N p = run B N [(48, 57), (59, 59)] (p + 1) fin1 from by (rw [stR, hl]; rfl), run_y q1, run_n q2]]
    refine V.iconst (v := nI 0) dX6_readsStatement_195 (by decide) ?_
    exact V.iret (by exact dX6_readsStatement_196) rfl (bI_narrow false) ⟨rfl, rfl, t2, NB2, rfl, fun y => by cases y⟩
  obtain ⟨rfl, y2⟩ := g2 q2
  have y2 := y2.symm
  subst y2
  rw [if_pos q2]
  rw [show stR B N p = (true, p + 1 + 1 + 1) from by rw [show stR B N p = run B N [(48, 57), (59, 59)] (p + 1) fin1 from by (rw [stR, hl]; rfl), run_y q1, run_y q2]; rfl]
  refine V.iconst (v := nI 1) dX6_readsStatement_191 (by decide) ?_
  refine V.goto (tgt := 196) dX6_readsStatement_192 (by decide) ?_
  have hv : ∀ j, j < 1 → NB1 j = nI (nbs B 114 p (p + 1 + 1 + 1) j) := fun j hj => by
    rcases (show j = 0 by omega) with rfl
    · exact e1.trans (congrArg nI rfl)
  refine V.iret (by exact dX6_readsStatement_196) rfl (bI_narrow true) ⟨rfl, rfl, _, NB1, rfl, fun _ => ⟨gb NB1 1 (nbs B 114 p (p + 1 + 1 + 1)), fun j _ => gb_is hv j, Or.inr (Or.inl ⟨by decide, by rw [gb_lo (by omega)]; exact i1⟩), cm_1 (by decide) (gb_lo (by omega))⟩⟩
set_option maxRecDepth 20000 in
set_option maxHeartbeats 4000000 in
theorem s6_readsSt_101 (l : Launch) (d : Nat) (h : MH) (n : Nat) (b0 : Bool) (th : Int32) (i N : Nat) (hi : i < 8) (hN : N ≤ 100) (X : Nat → Int32) (hx : h 86 = some (ia 800 X)) (B : Nat → Int32) (hB : ∀ k, k < 100 → B k = X (100 * i + k)) (p t : Nat) (NB : Nat → Int32) (hp : p < N) (hl : ltr B N p = 101) : V l mX6_readsStatement (d + 4) 165 [some (.ref 78), some (.int (nI 101))] [] (RH h b0 th i N p 0 NB) n 0 0 (Rq h b0 th i N (stR B N p).1 (stR B N p).2 (Sg B 101 p (stR B N p).2) n) := by
  refine V.aload_n dX6_readsStatement_165 rfl ?_
  refine V.dup dX6_readsStatement_166 rfl ?_
  refine V.getf dX6_readsStatement_167 fl_X6_90 (RH_78 _ _ _ _ _ _ _ _) rfl ?_
  refine V.iconst (v := nI 1) dX6_readsStatement_170 (by decide) ?_
  refine V.iaddN dX6_readsStatement_171 ?_
  refine V.putf dX6_readsStatement_172 fp_X6_90 (RH_78 _ _ _ _ _ _ _ _) (Nat.le_of_ble_eq_true rfl) (fun _ => ⟨rfl, rfl⟩) ?_
  change V _ _ _ _ _ _ (hset (RH h b0 th i N (p) 0 NB) 78 (.inr (6, moF b0 th (nI (p + 1)) (nI (100 * i)) (nI N) (nI 0)))) _ _ _ _
  rw [RH_s78]
  refine V.aload_n dX6_readsStatement_175 rfl ?_
  refine V.callRq [] dX6_readsStatement_176 lk_X6_110 rfl (Nat.le_of_ble_eq_true rfl) (Nat.le_of_ble_eq_true rfl) rfl (s6_readsDigit l _ h n b0 th i N hi hN X hx B hB (p + 1) 0 NB (by omega) (by omega)) (fun t1 NB1 g1 => ?_)
  refine V.if_eqB (tgt := 195) dX6_readsStatement_179 (by decide) (fun q1 => ?_) (fun q1 => ?_)
  · rw [if_neg (show ¬ inB B N (p + 1) 48 57 = true by rw [q1]; decide)]
    rw [show stR B N p = (false, p + 1) from by rw [show stR B N p = run B N [(48, 57), (59, 59)] (p + 1) fin1 from by (rw [stR, hl]; rfl), run_n q1]]
    refine V.iconst (v := nI 0) dX6_readsStatement_195 (by decide) ?_
    exact V.iret (by exact dX6_readsStatement_196) rfl (bI_narrow false) ⟨rfl, rfl, t1, NB1, rfl, fun y => by cases y⟩
  obtain ⟨rfl, e1, f1⟩ := g1 q1
  rw [if_pos q1]
  have i1 := dgt9 q1
  have n1 := (inB_ex (by omega) (by omega) q1).1
  refine V.aload_n dX6_readsStatement_182 rfl ?_
  refine V.bipush (v := nI 59) dX6_readsStatement_183 (by decide) ?_
  refine V.callRq [_] dX6_readsStatement_185 lk_X6_121 rfl (Nat.le_of_ble_eq_true rfl) (Nat.le_of_ble_eq_true rfl) rfl (s6_takes l _ h n b0 th i N hi hN X hx B hB (p + 1 + 1) 1 NB1 (by omega) 59 (by omega)) (fun t2 NB2 g2 => ?_)
  refine V.if_eqB (tgt := 195) dX6_readsStatement_188 (by decide) (fun q2 => ?_) (fun q2 => ?_)
  · rw [if_neg (show ¬ inB B N (p + 1 + 1) 59 59 = true by rw [q2]; decide)]
    rw [show stR B N p = (false, p + 1 + 1) from by rw [show stR B N p = run B N [(48, 57), (59, 59)] (p + 1) fin1 from by (rw [stR, hl]; rfl), run_y q1, run_n q2]]
    refine V.iconst (v := nI 0) dX6_readsStatement_195 (by decide) ?_
    exact V.iret (by exact dX6_readsStatement_196) rfl (bI_narrow false) ⟨rfl, rfl, t2, NB2, rfl, fun y => by cases y⟩
  obtain ⟨rfl, y2⟩ := g2 q2
  have y2 := y2.symm
  subst y2
  rw [if_pos q2]
  rw [show stR B N p = (true, p + 1 + 1 + 1) from by rw [show stR B N p = run B N [(48, 57), (59, 59)] (p + 1) fin1 from by (rw [stR, hl]; rfl), run_y q1, run_y q2]; rfl]
  refine V.iconst (v := nI 1) dX6_readsStatement_191 (by decide) ?_
  refine V.goto (tgt := 196) dX6_readsStatement_192 (by decide) ?_
  have hv : ∀ j, j < 1 → NB1 j = nI (nbs B 101 p (p + 1 + 1 + 1) j) := fun j hj => by
    rcases (show j = 0 by omega) with rfl
    · exact e1.trans (congrArg nI rfl)
  refine V.iret (by exact dX6_readsStatement_196) rfl (bI_narrow true) ⟨rfl, rfl, _, NB1, rfl, fun _ => ⟨gb NB1 1 (nbs B 101 p (p + 1 + 1 + 1)), fun j _ => gb_is hv j, Or.inr (Or.inl ⟨by decide, by rw [gb_lo (by omega)]; exact i1⟩), cm_1 (by decide) (gb_lo (by omega))⟩⟩
set_option maxRecDepth 20000 in
set_option maxHeartbeats 4000000 in
theorem s6_readsSt_102 (l : Launch) (d : Nat) (h : MH) (n : Nat) (b0 : Bool) (th : Int32) (i N : Nat) (hi : i < 8) (hN : N ≤ 100) (X : Nat → Int32) (hx : h 86 = some (ia 800 X)) (B : Nat → Int32) (hB : ∀ k, k < 100 → B k = X (100 * i + k)) (p t : Nat) (NB : Nat → Int32) (hp : p < N) (hl : ltr B N p = 102) : V l mX6_readsStatement (d + 4) 165 [some (.ref 78), some (.int (nI 102))] [] (RH h b0 th i N p 0 NB) n 0 0 (Rq h b0 th i N (stR B N p).1 (stR B N p).2 (Sg B 102 p (stR B N p).2) n) := by
  refine V.aload_n dX6_readsStatement_165 rfl ?_
  refine V.dup dX6_readsStatement_166 rfl ?_
  refine V.getf dX6_readsStatement_167 fl_X6_90 (RH_78 _ _ _ _ _ _ _ _) rfl ?_
  refine V.iconst (v := nI 1) dX6_readsStatement_170 (by decide) ?_
  refine V.iaddN dX6_readsStatement_171 ?_
  refine V.putf dX6_readsStatement_172 fp_X6_90 (RH_78 _ _ _ _ _ _ _ _) (Nat.le_of_ble_eq_true rfl) (fun _ => ⟨rfl, rfl⟩) ?_
  change V _ _ _ _ _ _ (hset (RH h b0 th i N (p) 0 NB) 78 (.inr (6, moF b0 th (nI (p + 1)) (nI (100 * i)) (nI N) (nI 0)))) _ _ _ _
  rw [RH_s78]
  refine V.aload_n dX6_readsStatement_175 rfl ?_
  refine V.callRq [] dX6_readsStatement_176 lk_X6_110 rfl (Nat.le_of_ble_eq_true rfl) (Nat.le_of_ble_eq_true rfl) rfl (s6_readsDigit l _ h n b0 th i N hi hN X hx B hB (p + 1) 0 NB (by omega) (by omega)) (fun t1 NB1 g1 => ?_)
  refine V.if_eqB (tgt := 195) dX6_readsStatement_179 (by decide) (fun q1 => ?_) (fun q1 => ?_)
  · rw [if_neg (show ¬ inB B N (p + 1) 48 57 = true by rw [q1]; decide)]
    rw [show stR B N p = (false, p + 1) from by rw [show stR B N p = run B N [(48, 57), (59, 59)] (p + 1) fin1 from by (rw [stR, hl]; rfl), run_n q1]]
    refine V.iconst (v := nI 0) dX6_readsStatement_195 (by decide) ?_
    exact V.iret (by exact dX6_readsStatement_196) rfl (bI_narrow false) ⟨rfl, rfl, t1, NB1, rfl, fun y => by cases y⟩
  obtain ⟨rfl, e1, f1⟩ := g1 q1
  rw [if_pos q1]
  have i1 := dgt9 q1
  have n1 := (inB_ex (by omega) (by omega) q1).1
  refine V.aload_n dX6_readsStatement_182 rfl ?_
  refine V.bipush (v := nI 59) dX6_readsStatement_183 (by decide) ?_
  refine V.callRq [_] dX6_readsStatement_185 lk_X6_121 rfl (Nat.le_of_ble_eq_true rfl) (Nat.le_of_ble_eq_true rfl) rfl (s6_takes l _ h n b0 th i N hi hN X hx B hB (p + 1 + 1) 1 NB1 (by omega) 59 (by omega)) (fun t2 NB2 g2 => ?_)
  refine V.if_eqB (tgt := 195) dX6_readsStatement_188 (by decide) (fun q2 => ?_) (fun q2 => ?_)
  · rw [if_neg (show ¬ inB B N (p + 1 + 1) 59 59 = true by rw [q2]; decide)]
    rw [show stR B N p = (false, p + 1 + 1) from by rw [show stR B N p = run B N [(48, 57), (59, 59)] (p + 1) fin1 from by (rw [stR, hl]; rfl), run_y q1, run_n q2]]
    refine V.iconst (v := nI 0) dX6_readsStatement_195 (by decide) ?_
    exact V.iret (by exact dX6_readsStatement_196) rfl (bI_narrow false) ⟨rfl, rfl, t2, NB2, rfl, fun y => by cases y⟩
  obtain ⟨rfl, y2⟩ := g2 q2
  have y2 := y2.symm
  subst y2
  rw [if_pos q2]
  rw [show stR B N p = (true, p + 1 + 1 + 1) from by rw [show stR B N p = run B N [(48, 57), (59, 59)] (p + 1) fin1 from by (rw [stR, hl]; rfl), run_y q1, run_y q2]; rfl]
  refine V.iconst (v := nI 1) dX6_readsStatement_191 (by decide) ?_
  refine V.goto (tgt := 196) dX6_readsStatement_192 (by decide) ?_
  have hv : ∀ j, j < 1 → NB1 j = nI (nbs B 102 p (p + 1 + 1 + 1) j) := fun j hj => by
    rcases (show j = 0 by omega) with rfl
    · exact e1.trans (congrArg nI rfl)
  refine V.iret (by exact dX6_readsStatement_196) rfl (bI_narrow true) ⟨rfl, rfl, _, NB1, rfl, fun _ => ⟨gb NB1 1 (nbs B 102 p (p + 1 + 1 + 1)), fun j _ => gb_is hv j, Or.inr (Or.inl ⟨by decide, by rw [gb_lo (by omega)]; exact i1⟩), cm_1 (by decide) (gb_lo (by omega))⟩⟩
set_option maxRecDepth 20000 in
set_option maxHeartbeats 4000000 in
theorem s6_readsSt_108 (l : Launch) (d : Nat) (h : MH) (n : Nat) (b0 : Bool) (th : Int32) (i N : Nat) (hi : i < 8) (hN : N ≤ 100) (X : Nat → Int32) (hx : h 86 = some (ia 800 X)) (B : Nat → Int32) (hB : ∀ k, k < 100 → B k = X (100 * i + k)) (p t : Nat) (NB : Nat → Int32) (hp : p < N) (hl : ltr B N p = 108) : V l mX6_readsStatement (d + 4) 165 [some (.ref 78), some (.int (nI 108))] [] (RH h b0 th i N p 0 NB) n 0 0 (Rq h b0 th i N (stR B N p).1 (stR B N p).2 (Sg B 108 p (stR B N p).2) n) := by
  refine V.aload_n dX6_readsStatement_165 rfl ?_
  refine V.dup dX6_readsStatement_166 rfl ?_
  refine V.getf dX6_readsStatement_167 fl_X6_90 (RH_78 _ _ _ _ _ _ _ _) rfl ?_
  refine V.iconst (v := nI 1) dX6_readsStatement_170 (by decide) ?_
  refine V.iaddN dX6_readsStatement_171 ?_
  refine V.putf dX6_readsStatement_172 fp_X6_90 (RH_78 _ _ _ _ _ _ _ _) (Nat.le_of_ble_eq_true rfl) (fun _ => ⟨rfl, rfl⟩) ?_
  change V _ _ _ _ _ _ (hset (RH h b0 th i N (p) 0 NB) 78 (.inr (6, moF b0 th (nI (p + 1)) (nI (100 * i)) (nI N) (nI 0)))) _ _ _ _
  rw [RH_s78]
  refine V.aload_n dX6_readsStatement_175 rfl ?_
  refine V.callRq [] dX6_readsStatement_176 lk_X6_110 rfl (Nat.le_of_ble_eq_true rfl) (Nat.le_of_ble_eq_true rfl) rfl (s6_readsDigit l _ h n b0 th i N hi hN X hx B hB (p + 1) 0 NB (by omega) (by omega)) (fun t1 NB1 g1 => ?_)
  refine V.if_eqB (tgt := 195) dX6_readsStatement_179 (by decide) (fun q1 => ?_) (fun q1 => ?_)
  · rw [if_neg (show ¬ inB B N (p + 1) 48 57 = true by rw [q1]; decide)]
    rw [show stR B N p = (false, p + 1) from by rw [show stR B N p = run B N [(48, 57), (59, 59)] (p + 1) fin1 from by (rw [stR, hl]; rfl), run_n q1]]
    refine V.iconst (v := nI 0) dX6_readsStatement_195 (by decide) ?_
    exact V.iret (by exact dX6_readsStatement_196) rfl (bI_narrow false) ⟨rfl, rfl, t1, NB1, rfl, fun y => by cases y⟩
  obtain ⟨rfl, e1, f1⟩ := g1 q1
  rw [if_pos q1]
  have i1 := dgt9 q1
  have n1 := (inB_ex (by omega) (by omega) q1).1
  refine V.aload_n dX6_readsStatement_182 rfl ?_
  refine V.bipush (v := nI 59) dX6_readsStatement_183 (by decide) ?_
  refine V.callRq [_] dX6_readsStatement_185 lk_X6_121 rfl (Nat.le_of_ble_eq_true rfl) (Nat.le_of_ble_eq_true rfl) rfl (s6_takes l _ h n b0 th i N hi hN X hx B hB (p + 1 + 1) 1 NB1 (by omega) 59 (by omega)) (fun t2 NB2 g2 => ?_)
  refine V.if_eqB (tgt := 195) dX6_readsStatement_188 (by decide) (fun q2 => ?_) (fun q2 => ?_)
  · rw [if_neg (show ¬ inB B N (p + 1 + 1) 59 59 = true by rw [q2]; decide)]
    rw [show stR B N p = (false, p + 1 + 1) from by rw [show stR B N p = run B N [(48, 57), (59, 59)] (p + 1) fin1 from by (rw [stR, hl]; rfl), run_y q1, run_n q2]]
    refine V.iconst (v := nI 0) dX6_readsStatement_195 (by decide) ?_
    exact V.iret (by exact dX6_readsStatement_196) rfl (bI_narrow false) ⟨rfl, rfl, t2, NB2, rfl, fun y => by cases y⟩
  obtain ⟨rfl, y2⟩ := g2 q2
  have y2 := y2.symm
  subst y2
  rw [if_pos q2]
  rw [show stR B N p = (true, p + 1 + 1 + 1) from by rw [show stR B N p = run B N [(48, 57), (59, 59)] (p + 1) fin1 from by (rw [stR, hl]; rfl), run_y q1, run_y q2]; rfl]
  refine V.iconst (v := nI 1) dX6_readsStatement_191 (by decide) ?_
  refine V.goto (tgt := 196) dX6_readsStatement_192 (by decide) ?_
  have hv : ∀ j, j < 1 → NB1 j = nI (nbs B 108 p (p + 1 + 1 + 1) j) := fun j hj => by
    rcases (show j = 0 by omega) with rfl
    · exact e1.trans (congrArg nI rfl)
  refine V.iret (by exact dX6_readsStatement_196) rfl (bI_narrow true) ⟨rfl, rfl, _, NB1, rfl, fun _ => ⟨gb NB1 1 (nbs B 108 p (p + 1 + 1 + 1)), fun j _ => gb_is hv j, Or.inr (Or.inl ⟨by decide, by rw [gb_lo (by omega)]; exact i1⟩), cm_1 (by decide) (gb_lo (by omega))⟩⟩
set_option maxRecDepth 20000 in
set_option maxHeartbeats 4000000 in
theorem s6_readsSt_116 (l : Launch) (d : Nat) (h : MH) (n : Nat) (b0 : Bool) (th : Int32) (i N : Nat) (hi : i < 8) (hN : N ≤ 100) (X : Nat → Int32) (hx : h 86 = some (ia 800 X)) (B : Nat → Int32) (hB : ∀ k, k < 100 → B k = X (100 * i + k)) (p t : Nat) (NB : Nat → Int32) (hp : p < N) (hl : ltr B N p = 116) : V l mX6_readsStatement (d + 4) 197 [some (.ref 78), some (.int (nI 116))] [] (RH h b0 th i N p 0 NB) n 0 0 (Rq h b0 th i N (stR B N p).1 (stR B N p).2 (Sg B 116 p (stR B N p).2) n) := by
  refine V.aload_n dX6_readsStatement_197 rfl ?_
  refine V.dup dX6_readsStatement_198 rfl ?_
  refine V.getf dX6_readsStatement_199 fl_X6_90 (RH_78 _ _ _ _ _ _ _ _) rfl ?_
  refine V.iconst (v := nI 1) dX6_readsStatement_202 (by decide) ?_
  refine V.iaddN dX6_readsStatement_203 ?_
  refine V.putf dX6_readsStatement_204 fp_X6_90 (RH_78 _ _ _ _ _ _ _ _) (Nat.le_of_ble_eq_true rfl) (fun _ => ⟨rfl, rfl⟩) ?_
  change V _ _ _ _ _ _ (hset (RH h b0 th i N (p) 0 NB) 78 (.inr (6, moF b0 th (nI (p + 1)) (nI (100 * i)) (nI N) (nI 0)))) _ _ _ _
  rw [RH_s78]
  refine V.aload_n dX6_readsStatement_207 rfl ?_
  refine V.callRq [] dX6_readsStatement_208 lk_X6_125 rfl (Nat.le_of_ble_eq_true rfl) (Nat.le_of_ble_eq_true rfl) rfl (s6_readsNumber l _ h n b0 th i N hi hN X hx B hB (p + 1) 0 NB (by omega) (by omega)) (fun t1 NB1 g1 => ?_)
  refine V.if_eqB (tgt := 227) dX6_readsStatement_211 (by decide) (fun q1 => ?_) (fun q1 => ?_)
  · rw [show nmP B N (p + 1) = p + 1 from by (rw [nmP, q1]; rfl)]
    rw [show stR B N p = (false, p + 1) from by rw [show stR B N p = (if inB B N (p + 1) 48 57 = true then run B N [(59, 59)] (nmP B N (p + 1)) fin1 else (false, p + 1)) from by (rw [stR, hl]; rfl), if_neg (by rw [q1]; decide)]]
    refine V.iconst (v := nI 0) dX6_readsStatement_227 (by decide) ?_
    exact V.iret (by exact dX6_readsStatement_228) rfl (bI_narrow false) ⟨rfl, rfl, t1, NB1, rfl, fun y => by cases y⟩
  obtain ⟨rfl, e1, f1⟩ := g1 q1
  have i1 := nuV_lt q1
  have n1 := (inB_ex (by omega) (by omega) q1).1
  have j1 : nmP B N (p + 1) ≤ p + 1 + 3 := by unfold nmP; split <;> (try split) <;> (try split) <;> (try split) <;> omega
  refine V.aload_n dX6_readsStatement_214 rfl ?_
  refine V.bipush (v := nI 59) dX6_readsStatement_215 (by decide) ?_
  refine V.callRq [_] dX6_readsStatement_217 lk_X6_121 rfl (Nat.le_of_ble_eq_true rfl) (Nat.le_of_ble_eq_true rfl) rfl (s6_takes l _ h n b0 th i N hi hN X hx B hB (nmP B N (p + 1)) 1 NB1 (by omega) 59 (by omega)) (fun t2 NB2 g2 => ?_)
  refine V.if_eqB (tgt := 227) dX6_readsStatement_220 (by decide) (fun q2 => ?_) (fun q2 => ?_)
  · rw [if_neg (show ¬ inB B N (nmP B N (p + 1)) 59 59 = true by rw [q2]; decide)]
    rw [show stR B N p = (false, nmP B N (p + 1)) from by rw [show stR B N p = (if inB B N (p + 1) 48 57 = true then run B N [(59, 59)] (nmP B N (p + 1)) fin1 else (false, p + 1)) from by (rw [stR, hl]; rfl), if_pos q1, run_n q2]]
    refine V.iconst (v := nI 0) dX6_readsStatement_227 (by decide) ?_
    exact V.iret (by exact dX6_readsStatement_228) rfl (bI_narrow false) ⟨rfl, rfl, t2, NB2, rfl, fun y => by cases y⟩
  obtain ⟨rfl, y2⟩ := g2 q2
  have y2 := y2.symm
  subst y2
  rw [if_pos q2]
  rw [show stR B N p = (true, nmP B N (p + 1) + 1) from by rw [show stR B N p = (if inB B N (p + 1) 48 57 = true then run B N [(59, 59)] (nmP B N (p + 1)) fin1 else (false, p + 1)) from by (rw [stR, hl]; rfl), if_pos q1, run_y q2]; rfl]
  refine V.iconst (v := nI 1) dX6_readsStatement_223 (by decide) ?_
  refine V.goto (tgt := 228) dX6_readsStatement_224 (by decide) ?_
  have hv : ∀ j, j < 1 → NB1 j = nI (nbs B 116 p (nmP B N (p + 1) + 1) j) := fun j hj => by
    rcases (show j = 0 by omega) with rfl
    · exact e1.trans (congrArg nI (show nuV B (p + 1) (nmP B N (p + 1) - (p + 1)) = nuV B (p + 1) (nmP B N (p + 1) + 1 - 2 - p) by rw [show nmP B N (p + 1) + 1 - 2 - p = nmP B N (p + 1) - (p + 1) by omega]))
  refine V.iret (by exact dX6_readsStatement_228) rfl (bI_narrow true) ⟨rfl, rfl, _, NB1, rfl, fun _ => ⟨gb NB1 1 (nbs B 116 p (nmP B N (p + 1) + 1)), fun j _ => gb_is hv j, Or.inr (Or.inr (Or.inl ⟨by decide, by rw [gb_lo (by omega)]; show nuV B (p + 1) (nmP B N (p + 1) + 1 - 2 - p) < 1000; rw [show nmP B N (p + 1) + 1 - 2 - p = nmP B N (p + 1) - (p + 1) by omega]; exact i1.2⟩)), cm_1 (by decide) (gb_lo (by omega))⟩⟩
set_option maxRecDepth 20000 in
set_option maxHeartbeats 4000000 in
theorem s6_readsSt_104 (l : Launch) (d : Nat) (h : MH) (n : Nat) (b0 : Bool) (th : Int32) (i N : Nat) (hi : i < 8) (hN : N ≤ 100) (X : Nat → Int32) (hx : h 86 = some (ia 800 X)) (B : Nat → Int32) (hB : ∀ k, k < 100 → B k = X (100 * i + k)) (p t : Nat) (NB : Nat → Int32) (hp : p < N) (hl : ltr B N p = 104) : V l mX6_readsStatement (d + 4) 197 [some (.ref 78), some (.int (nI 104))] [] (RH h b0 th i N p 0 NB) n 0 0 (Rq h b0 th i N (stR B N p).1 (stR B N p).2 (Sg B 104 p (stR B N p).2) n) := by
  refine V.aload_n dX6_readsStatement_197 rfl ?_
  refine V.dup dX6_readsStatement_198 rfl ?_
  refine V.getf dX6_readsStatement_199 fl_X6_90 (RH_78 _ _ _ _ _ _ _ _) rfl ?_
  refine V.iconst (v := nI 1) dX6_readsStatement_202 (by decide) ?_
  refine V.iaddN dX6_readsStatement_203 ?_
  refine V.putf dX6_readsStatement_204 fp_X6_90 (RH_78 _ _ _ _ _ _ _ _) (Nat.le_of_ble_eq_true rfl) (fun _ => ⟨rfl, rfl⟩) ?_
  change V _ _ _ _ _ _ (hset (RH h b0 th i N (p) 0 NB) 78 (.inr (6, moF b0 th (nI (p + 1)) (nI (100 * i)) (nI N) (nI 0)))) _ _ _ _
  rw [RH_s78]
  refine V.aload_n dX6_readsStatement_207 rfl ?_
  refine V.callRq [] dX6_readsStatement_208 lk_X6_125 rfl (Nat.le_of_ble_eq_true rfl) (Nat.le_of_ble_eq_true rfl) rfl (s6_readsNumber l _ h n b0 th i N hi hN X hx B hB (p + 1) 0 NB (by omega) (by omega)) (fun t1 NB1 g1 => ?_)
  refine V.if_eqB (tgt := 227) dX6_readsStatement_211 (by decide) (fun q1 => ?_) (fun q1 => ?_)
  · rw [show nmP B N (p + 1) = p + 1 from by (rw [nmP, q1]; rfl)]
    rw [show stR B N p = (false, p + 1) from by rw [show stR B N p = (if inB B N (p + 1) 48 57 = true then run B N [(59, 59)] (nmP B N (p + 1)) fin1 else (false, p + 1)) from by (rw [stR, hl]; rfl), if_neg (by rw [q1]; decide)]]
    refine V.iconst (v := nI 0) dX6_readsStatement_227 (by decide) ?_
    exact V.iret (by exact dX6_readsStatement_228) rfl (bI_narrow false) ⟨rfl, rfl, t1, NB1, rfl, fun y => by cases y⟩
  obtain ⟨rfl, e1, f1⟩ := g1 q1
  have i1 := nuV_lt q1
  have n1 := (inB_ex (by omega) (by omega) q1).1
  have j1 : nmP B N (p + 1) ≤ p + 1 + 3 := by unfold nmP; split <;> (try split) <;> (try split) <;> (try split) <;> omega
  refine V.aload_n dX6_readsStatement_214 rfl ?_
  refine V.bipush (v := nI 59) dX6_readsStatement_215 (by decide) ?_
  refine V.callRq [_] dX6_readsStatement_217 lk_X6_121 rfl (Nat.le_of_ble_eq_true rfl) (Nat.le_of_ble_eq_true rfl) rfl (s6_takes l _ h n b0 th i N hi hN X hx B hB (nmP B N (p + 1)) 1 NB1 (by omega) 59 (by omega)) (fun t2 NB2 g2 => ?_)
  refine V.if_eqB (tgt := 227) dX6_readsStatement_220 (by decide) (fun q2 => ?_) (fun q2 => ?_)
  · rw [if_neg (show ¬ inB B N (nmP B N (p + 1)) 59 59 = true by rw [q2]; decide)]
    rw [show stR B N p = (false, nmP B N (p + 1)) from by rw [show stR B N p = (if inB B N (p + 1) 48 57 = true then run B N [(59, 59)] (nmP B N (p + 1)) fin1 else (false, p + 1)) from by (rw [stR, hl]; rfl), if_pos q1, run_n q2]]
    refine V.iconst (v := nI 0) dX6_readsStatement_227 (by decide) ?_
    exact V.iret (by exact dX6_readsStatement_228) rfl (bI_narrow false) ⟨rfl, rfl, t2, NB2, rfl, fun y => by cases y⟩
  obtain ⟨rfl, y2⟩ := g2 q2
  have y2 := y2.symm
  subst y2
  rw [if_pos q2]
  rw [show stR B N p = (true, nmP B N (p + 1) + 1) from by rw [show stR B N p = (if inB B N (p + 1) 48 57 = true then run B N [(59, 59)] (nmP B N (p + 1)) fin1 else (false, p + 1)) from by (rw [stR, hl]; rfl), if_pos q1, run_y q2]; rfl]
  refine V.iconst (v := nI 1) dX6_readsStatement_223 (by decide) ?_
  refine V.goto (tgt := 228) dX6_readsStatement_224 (by decide) ?_
  have hv : ∀ j, j < 1 → NB1 j = nI (nbs B 104 p (nmP B N (p + 1) + 1) j) := fun j hj => by
    rcases (show j = 0 by omega) with rfl
    · exact e1.trans (congrArg nI (show nuV B (p + 1) (nmP B N (p + 1) - (p + 1)) = nuV B (p + 1) (nmP B N (p + 1) + 1 - 2 - p) by rw [show nmP B N (p + 1) + 1 - 2 - p = nmP B N (p + 1) - (p + 1) by omega]))
  refine V.iret (by exact dX6_readsStatement_228) rfl (bI_narrow true) ⟨rfl, rfl, _, NB1, rfl, fun _ => ⟨gb NB1 1 (nbs B 104 p (nmP B N (p + 1) + 1)), fun j _ => gb_is hv j, Or.inr (Or.inr (Or.inl ⟨by decide, by rw [gb_lo (by omega)]; show nuV B (p + 1) (nmP B N (p + 1) + 1 - 2 - p) < 1000; rw [show nmP B N (p + 1) + 1 - 2 - p = nmP B N (p + 1) - (p + 1) by omega]; exact i1.2⟩)), cm_1 (by decide) (gb_lo (by omega))⟩⟩
set_option maxRecDepth 20000 in
set_option maxHeartbeats 4000000 in
theorem s6_readsSt_112 (l : Launch) (d : Nat) (h : MH) (n : Nat) (b0 : Bool) (th : Int32) (i N : Nat) (hi : i < 8) (hN : N ≤ 100) (X : Nat → Int32) (hx : h 86 = some (ia 800 X)) (B : Nat → Int32) (hB : ∀ k, k < 100 → B k = X (100 * i + k)) (p t : Nat) (NB : Nat → Int32) (hp : p < N) (hl : ltr B N p = 112) : V l mX6_readsStatement (d + 4) 229 [some (.ref 78), some (.int (nI 112))] [] (RH h b0 th i N p 0 NB) n 0 0 (Rq h b0 th i N (stR B N p).1 (stR B N p).2 (Sg B 112 p (stR B N p).2) n) := by
  refine V.aload_n dX6_readsStatement_229 rfl ?_
  refine V.dup dX6_readsStatement_230 rfl ?_
  refine V.getf dX6_readsStatement_231 fl_X6_90 (RH_78 _ _ _ _ _ _ _ _) rfl ?_
  refine V.iconst (v := nI 1) dX6_readsStatement_234 (by decide) ?_
  refine V.iaddN dX6_readsStatement_235 ?_
  refine V.putf dX6_readsStatement_236 fp_X6_90 (RH_78 _ _ _ _ _ _ _ _) (Nat.le_of_ble_eq_true rfl) (fun _ => ⟨rfl, rfl⟩) ?_
  change V _ _ _ _ _ _ (hset (RH h b0 th i N (p) 0 NB) 78 (.inr (6, moF b0 th (nI (p + 1)) (nI (100 * i)) (nI N) (nI 0)))) _ _ _ _
  rw [RH_s78]
  refine V.aload_n dX6_readsStatement_239 rfl ?_
  refine V.callRq [] dX6_readsStatement_240 lk_X6_110 rfl (Nat.le_of_ble_eq_true rfl) (Nat.le_of_ble_eq_true rfl) rfl (s6_readsDigit l _ h n b0 th i N hi hN X hx B hB (p + 1) 0 NB (by omega) (by omega)) (fun t1 NB1 g1 => ?_)
  refine V.if_eqB (tgt := 280) dX6_readsStatement_243 (by decide) (fun q1 => ?_) (fun q1 => ?_)
  · rw [if_neg (show ¬ inB B N (p + 1) 48 57 = true by rw [q1]; decide)]
    rw [show stR B N p = (false, p + 1) from by rw [show stR B N p = run B N [(48, 57), (48, 57), (48, 57), (97, 108), (48, 54), (59, 59)] (p + 1) fin1 from by (rw [stR, hl]; rfl), run_n q1]]
    refine V.iconst (v := nI 0) dX6_readsStatement_280 (by decide) ?_
    exact V.iret (by exact dX6_readsStatement_281) rfl (bI_narrow false) ⟨rfl, rfl, t1, NB1, rfl, fun y => by cases y⟩
  obtain ⟨rfl, e1, f1⟩ := g1 q1
  rw [if_pos q1]
  have i1 := dgt9 q1
  have n1 := (inB_ex (by omega) (by omega) q1).1
  refine V.aload_n dX6_readsStatement_246 rfl ?_
  refine V.callRq [] dX6_readsStatement_247 lk_X6_110 rfl (Nat.le_of_ble_eq_true rfl) (Nat.le_of_ble_eq_true rfl) rfl (s6_readsDigit l _ h n b0 th i N hi hN X hx B hB (p + 1 + 1) 1 NB1 (by omega) (by omega)) (fun t2 NB2 g2 => ?_)
  refine V.if_eqB (tgt := 280) dX6_readsStatement_250 (by decide) (fun q2 => ?_) (fun q2 => ?_)
  · rw [if_neg (show ¬ inB B N (p + 1 + 1) 48 57 = true by rw [q2]; decide)]
    rw [show stR B N p = (false, p + 1 + 1) from by rw [show stR B N p = run B N [(48, 57), (48, 57), (48, 57), (97, 108), (48, 54), (59, 59)] (p + 1) fin1 from by (rw [stR, hl]; rfl), run_y q1, run_n q2]]
    refine V.iconst (v := nI 0) dX6_readsStatement_280 (by decide) ?_
    exact V.iret (by exact dX6_readsStatement_281) rfl (bI_narrow false) ⟨rfl, rfl, t2, NB2, rfl, fun y => by cases y⟩
  obtain ⟨rfl, e2, f2⟩ := g2 q2
  rw [if_pos q2]
  have i2 := dgt9 q2
  have n2 := (inB_ex (by omega) (by omega) q2).1
  refine V.aload_n dX6_readsStatement_253 rfl ?_
  refine V.callRq [] dX6_readsStatement_254 lk_X6_110 rfl (Nat.le_of_ble_eq_true rfl) (Nat.le_of_ble_eq_true rfl) rfl (s6_readsDigit l _ h n b0 th i N hi hN X hx B hB (p + 1 + 1 + 1) 2 NB2 (by omega) (by omega)) (fun t3 NB3 g3 => ?_)
  refine V.if_eqB (tgt := 280) dX6_readsStatement_257 (by decide) (fun q3 => ?_) (fun q3 => ?_)
  · rw [if_neg (show ¬ inB B N (p + 1 + 1 + 1) 48 57 = true by rw [q3]; decide)]
    rw [show stR B N p = (false, p + 1 + 1 + 1) from by rw [show stR B N p = run B N [(48, 57), (48, 57), (48, 57), (97, 108), (48, 54), (59, 59)] (p + 1) fin1 from by (rw [stR, hl]; rfl), run_y q1, run_y q2, run_n q3]]
    refine V.iconst (v := nI 0) dX6_readsStatement_280 (by decide) ?_
    exact V.iret (by exact dX6_readsStatement_281) rfl (bI_narrow false) ⟨rfl, rfl, t3, NB3, rfl, fun y => by cases y⟩
  obtain ⟨rfl, e3, f3⟩ := g3 q3
  rw [if_pos q3]
  have i3 := dgt9 q3
  have n3 := (inB_ex (by omega) (by omega) q3).1
  refine V.aload_n dX6_readsStatement_260 rfl ?_
  refine V.callRq [] dX6_readsStatement_261 lk_X6_118 rfl (Nat.le_of_ble_eq_true rfl) (Nat.le_of_ble_eq_true rfl) rfl (s6_readsCell l _ h n b0 th i N hi hN X hx B hB (p + 1 + 1 + 1 + 1) 3 NB3 (by omega) (by omega)) (fun t4 NB4 g4 => ?_)
  refine V.if_eqB (tgt := 280) dX6_readsStatement_264 (by decide) (fun q4 => ?_) (fun q4 => ?_)
  · skip
    rw [show stR B N p = (false, clP B N (p + 1 + 1 + 1 + 1)) from by rw [show stR B N p = run B N [(48, 57), (48, 57), (48, 57), (97, 108), (48, 54), (59, 59)] (p + 1) fin1 from by (rw [stR, hl]; rfl), run_y q1, run_y q2, run_y q3, run_cn q4]]
    refine V.iconst (v := nI 0) dX6_readsStatement_280 (by decide) ?_
    exact V.iret (by exact dX6_readsStatement_281) rfl (bI_narrow false) ⟨rfl, rfl, t4, NB4, rfl, fun y => by cases y⟩
  obtain ⟨rfl, e4, f4⟩ := g4 q4
  rw [clP_y q4]
  have i4 := ce_lt q4
  have n4 := (inB_ex (by omega) (by omega) (show inB B N _ 97 108 = true from (Bool.and_eq_true _ _ ▸ q4 : _ ∧ _).1)).1
  refine V.aload_n dX6_readsStatement_267 rfl ?_
  refine V.bipush (v := nI 59) dX6_readsStatement_268 (by decide) ?_
  refine V.callRq [_] dX6_readsStatement_270 lk_X6_121 rfl (Nat.le_of_ble_eq_true rfl) (Nat.le_of_ble_eq_true rfl) rfl (s6_takes l _ h n b0 th i N hi hN X hx B hB (p + 1 + 1 + 1 + 1 + 1 + 1) 4 NB4 (by omega) 59 (by omega)) (fun t5 NB5 g5 => ?_)
  refine V.if_eqB (tgt := 280) dX6_readsStatement_273 (by decide) (fun q5 => ?_) (fun q5 => ?_)
  · rw [if_neg (show ¬ inB B N (p + 1 + 1 + 1 + 1 + 1 + 1) 59 59 = true by rw [q5]; decide)]
    rw [show stR B N p = (false, p + 1 + 1 + 1 + 1 + 1 + 1) from by rw [show stR B N p = run B N [(48, 57), (48, 57), (48, 57), (97, 108), (48, 54), (59, 59)] (p + 1) fin1 from by (rw [stR, hl]; rfl), run_y q1, run_y q2, run_y q3, run_cy q4, run_n q5]]
    refine V.iconst (v := nI 0) dX6_readsStatement_280 (by decide) ?_
    exact V.iret (by exact dX6_readsStatement_281) rfl (bI_narrow false) ⟨rfl, rfl, t5, NB5, rfl, fun y => by cases y⟩
  obtain ⟨rfl, y5⟩ := g5 q5
  have y5 := y5.symm
  subst y5
  rw [if_pos q5]
  rw [show stR B N p = (true, p + 1 + 1 + 1 + 1 + 1 + 1 + 1) from by rw [show stR B N p = run B N [(48, 57), (48, 57), (48, 57), (97, 108), (48, 54), (59, 59)] (p + 1) fin1 from by (rw [stR, hl]; rfl), run_y q1, run_y q2, run_y q3, run_cy q4, run_y q5]; rfl]
  refine V.iconst (v := nI 1) dX6_readsStatement_276 (by decide) ?_
  refine V.goto (tgt := 281) dX6_readsStatement_277 (by decide) ?_
  have hv : ∀ j, j < 4 → NB4 j = nI (nbs B 112 p (p + 1 + 1 + 1 + 1 + 1 + 1 + 1) j) := fun j hj => by
    rcases (show j = 0 ∨ j = 1 ∨ j = 2 ∨ j = 3 by omega) with rfl | rfl | rfl | rfl
    · exact ((f4 0 (by omega)).trans ((f3 0 (by omega)).trans ((f2 0 (by omega)).trans e1))).trans (congrArg nI rfl)
    · exact ((f4 1 (by omega)).trans ((f3 1 (by omega)).trans e2)).trans (congrArg nI rfl)
    · exact ((f4 2 (by omega)).trans e3).trans (congrArg nI rfl)
    · exact e4.trans (congrArg nI rfl)
  refine V.iret (by exact dX6_readsStatement_281) rfl (bI_narrow true) ⟨rfl, rfl, _, NB4, rfl, fun _ => ⟨gb NB4 4 (nbs B 112 p (p + 1 + 1 + 1 + 1 + 1 + 1 + 1)), fun j _ => gb_is hv j, Or.inr (Or.inr (Or.inr (Or.inl ⟨rfl, by rw [gb_lo (by omega)]; exact i1, by rw [gb_lo (by omega)]; exact i2, by rw [gb_lo (by omega)]; exact i3, by rw [gb_lo (by omega)]; exact i4⟩))), cm_4 (by decide) (gb_lo (by omega)) (gb_lo (by omega)) (gb_lo (by omega)) (gb_lo (by omega))⟩⟩
set_option maxRecDepth 20000 in
set_option maxHeartbeats 4000000 in
theorem s6_readsSt_99 (l : Launch) (d : Nat) (h : MH) (n : Nat) (b0 : Bool) (th : Int32) (i N : Nat) (hi : i < 8) (hN : N ≤ 100) (X : Nat → Int32) (hx : h 86 = some (ia 800 X)) (B : Nat → Int32) (hB : ∀ k, k < 100 → B k = X (100 * i + k)) (p t : Nat) (NB : Nat → Int32) (hp : p < N) (hl : ltr B N p = 99) : V l mX6_readsStatement (d + 4) 282 [some (.ref 78), some (.int (nI 99))] [] (RH h b0 th i N p 0 NB) n 0 0 (Rq h b0 th i N (stR B N p).1 (stR B N p).2 (Sg B 99 p (stR B N p).2) n) := by
  refine V.aload_n dX6_readsStatement_282 rfl ?_
  refine V.dup dX6_readsStatement_283 rfl ?_
  refine V.getf dX6_readsStatement_284 fl_X6_90 (RH_78 _ _ _ _ _ _ _ _) rfl ?_
  refine V.iconst (v := nI 1) dX6_readsStatement_287 (by decide) ?_
  refine V.iaddN dX6_readsStatement_288 ?_
  refine V.putf dX6_readsStatement_289 fp_X6_90 (RH_78 _ _ _ _ _ _ _ _) (Nat.le_of_ble_eq_true rfl) (fun _ => ⟨rfl, rfl⟩) ?_
  change V _ _ _ _ _ _ (hset (RH h b0 th i N (p) 0 NB) 78 (.inr (6, moF b0 th (nI (p + 1)) (nI (100 * i)) (nI N) (nI 0)))) _ _ _ _
  rw [RH_s78]
  refine V.aload_n dX6_readsStatement_292 rfl ?_
  refine V.callRq [] dX6_readsStatement_293 lk_X6_110 rfl (Nat.le_of_ble_eq_true rfl) (Nat.le_of_ble_eq_true rfl) rfl (s6_readsDigit l _ h n b0 th i N hi hN X hx B hB (p + 1) 0 NB (by omega) (by omega)) (fun t1 NB1 g1 => ?_)
  refine V.if_eqB (tgt := 333) dX6_readsStatement_296 (by decide) (fun q1 => ?_) (fun q1 => ?_)
  · rw [if_neg (show ¬ inB B N (p + 1) 48 57 = true by rw [q1]; decide)]
    rw [show stR B N p = (false, p + 1) from by rw [show stR B N p = run B N [(48, 57), (48, 57), (48, 57), (48, 57), (59, 59)] (p + 1) fin1 from by (rw [stR, hl]; rfl), run_n q1]]
    refine V.iconst (v := nI 0) dX6_readsStatement_333 (by decide) ?_
    exact V.iret (by exact dX6_readsStatement_334) rfl (bI_narrow false) ⟨rfl, rfl, t1, NB1, rfl, fun y => by cases y⟩
  obtain ⟨rfl, e1, f1⟩ := g1 q1
  rw [if_pos q1]
  have i1 := dgt9 q1
  have n1 := (inB_ex (by omega) (by omega) q1).1
  refine V.aload_n dX6_readsStatement_299 rfl ?_
  refine V.callRq [] dX6_readsStatement_300 lk_X6_110 rfl (Nat.le_of_ble_eq_true rfl) (Nat.le_of_ble_eq_true rfl) rfl (s6_readsDigit l _ h n b0 th i N hi hN X hx B hB (p + 1 + 1) 1 NB1 (by omega) (by omega)) (fun t2 NB2 g2 => ?_)
  refine V.if_eqB (tgt := 333) dX6_readsStatement_303 (by decide) (fun q2 => ?_) (fun q2 => ?_)
  · rw [if_neg (show ¬ inB B N (p + 1 + 1) 48 57 = true by rw [q2]; decide)]
    rw [show stR B N p = (false, p + 1 + 1) from by rw [show stR B N p = run B N [(48, 57), (48, 57), (48, 57), (48, 57), (59, 59)] (p + 1) fin1 from by (rw [stR, hl]; rfl), run_y q1, run_n q2]]
    refine V.iconst (v := nI 0) dX6_readsStatement_333 (by decide) ?_
    exact V.iret (by exact dX6_readsStatement_334) rfl (bI_narrow false) ⟨rfl, rfl, t2, NB2, rfl, fun y => by cases y⟩
  obtain ⟨rfl, e2, f2⟩ := g2 q2
  rw [if_pos q2]
  have i2 := dgt9 q2
  have n2 := (inB_ex (by omega) (by omega) q2).1
  refine V.aload_n dX6_readsStatement_306 rfl ?_
  refine V.callRq [] dX6_readsStatement_307 lk_X6_110 rfl (Nat.le_of_ble_eq_true rfl) (Nat.le_of_ble_eq_true rfl) rfl (s6_readsDigit l _ h n b0 th i N hi hN X hx B hB (p + 1 + 1 + 1) 2 NB2 (by omega) (by omega)) (fun t3 NB3 g3 => ?_)
  refine V.if_eqB (tgt := 333) dX6_readsStatement_310 (by decide) (fun q3 => ?_) (fun q3 => ?_)
  · rw [if_neg (show ¬ inB B N (p + 1 + 1 + 1) 48 57 = true by rw [q3]; decide)]
    rw [show stR B N p = (false, p + 1 + 1 + 1) from by rw [show stR B N p = run B N [(48, 57), (48, 57), (48, 57), (48, 57), (59, 59)] (p + 1) fin1 from by (rw [stR, hl]; rfl), run_y q1, run_y q2, run_n q3]]
    refine V.iconst (v := nI 0) dX6_readsStatement_333 (by decide) ?_
    exact V.iret (by exact dX6_readsStatement_334) rfl (bI_narrow false) ⟨rfl, rfl, t3, NB3, rfl, fun y => by cases y⟩
  obtain ⟨rfl, e3, f3⟩ := g3 q3
  rw [if_pos q3]
  have i3 := dgt9 q3
  have n3 := (inB_ex (by omega) (by omega) q3).1
  refine V.aload_n dX6_readsStatement_313 rfl ?_
  refine V.callRq [] dX6_readsStatement_314 lk_X6_110 rfl (Nat.le_of_ble_eq_true rfl) (Nat.le_of_ble_eq_true rfl) rfl (s6_readsDigit l _ h n b0 th i N hi hN X hx B hB (p + 1 + 1 + 1 + 1) 3 NB3 (by omega) (by omega)) (fun t4 NB4 g4 => ?_)
  refine V.if_eqB (tgt := 333) dX6_readsStatement_317 (by decide) (fun q4 => ?_) (fun q4 => ?_)
  · rw [if_neg (show ¬ inB B N (p + 1 + 1 + 1 + 1) 48 57 = true by rw [q4]; decide)]
    rw [show stR B N p = (false, p + 1 + 1 + 1 + 1) from by rw [show stR B N p = run B N [(48, 57), (48, 57), (48, 57), (48, 57), (59, 59)] (p + 1) fin1 from by (rw [stR, hl]; rfl), run_y q1, run_y q2, run_y q3, run_n q4]]
    refine V.iconst (v := nI 0) dX6_readsStatement_333 (by decide) ?_
    exact V.iret (by exact dX6_readsStatement_334) rfl (bI_narrow false) ⟨rfl, rfl, t4, NB4, rfl, fun y => by cases y⟩
  obtain ⟨rfl, e4, f4⟩ := g4 q4
  rw [if_pos q4]
  have i4 := dgt9 q4
  have n4 := (inB_ex (by omega) (by omega) q4).1
  refine V.aload_n dX6_readsStatement_320 rfl ?_
  refine V.bipush (v := nI 59) dX6_readsStatement_321 (by decide) ?_
  refine V.callRq [_] dX6_readsStatement_323 lk_X6_121 rfl (Nat.le_of_ble_eq_true rfl) (Nat.le_of_ble_eq_true rfl) rfl (s6_takes l _ h n b0 th i N hi hN X hx B hB (p + 1 + 1 + 1 + 1 + 1) 4 NB4 (by omega) 59 (by omega)) (fun t5 NB5 g5 => ?_)
  refine V.if_eqB (tgt := 333) dX6_readsStatement_326 (by decide) (fun q5 => ?_) (fun q5 => ?_)
  · rw [if_neg (show ¬ inB B N (p + 1 + 1 + 1 + 1 + 1) 59 59 = true by rw [q5]; decide)]
    rw [show stR B N p = (false, p + 1 + 1 + 1 + 1 + 1) from by rw [show stR B N p = run B N [(48, 57), (48, 57), (48, 57), (48, 57), (59, 59)] (p + 1) fin1 from by (rw [stR, hl]; rfl), run_y q1, run_y q2, run_y q3, run_y q4, run_n q5]]
    refine V.iconst (v := nI 0) dX6_readsStatement_333 (by decide) ?_
    exact V.iret (by exact dX6_readsStatement_334) rfl (bI_narrow false) ⟨rfl, rfl, t5, NB5, rfl, fun y => by cases y⟩
  obtain ⟨rfl, y5⟩ := g5 q5
  have y5 := y5.symm
  subst y5
  rw [if_pos q5]
  rw [show stR B N p = (true, p + 1 + 1 + 1 + 1 + 1 + 1) from by rw [show stR B N p = run B N [(48, 57), (48, 57), (48, 57), (48, 57), (59, 59)] (p + 1) fin1 from by (rw [stR, hl]; rfl), run_y q1, run_y q2, run_y q3, run_y q4, run_y q5]; rfl]
  refine V.iconst (v := nI 1) dX6_readsStatement_329 (by decide) ?_
  refine V.goto (tgt := 334) dX6_readsStatement_330 (by decide) ?_
  have hv : ∀ j, j < 4 → NB4 j = nI (nbs B 99 p (p + 1 + 1 + 1 + 1 + 1 + 1) j) := fun j hj => by
    rcases (show j = 0 ∨ j = 1 ∨ j = 2 ∨ j = 3 by omega) with rfl | rfl | rfl | rfl
    · exact ((f4 0 (by omega)).trans ((f3 0 (by omega)).trans ((f2 0 (by omega)).trans e1))).trans (congrArg nI rfl)
    · exact ((f4 1 (by omega)).trans ((f3 1 (by omega)).trans e2)).trans (congrArg nI rfl)
    · exact ((f4 2 (by omega)).trans e3).trans (congrArg nI rfl)
    · exact e4.trans (congrArg nI rfl)
  refine V.iret (by exact dX6_readsStatement_334) rfl (bI_narrow true) ⟨rfl, rfl, _, NB4, rfl, fun _ => ⟨gb NB4 4 (nbs B 99 p (p + 1 + 1 + 1 + 1 + 1 + 1)), fun j _ => gb_is hv j, Or.inr (Or.inr (Or.inr (Or.inr ⟨rfl, by rw [gb_lo (by omega)]; exact i1, by rw [gb_lo (by omega)]; exact i2, by rw [gb_lo (by omega)]; exact i3, by rw [gb_lo (by omega)]; exact i4⟩))), cm_4 (by decide) (gb_lo (by omega)) (gb_lo (by omega)) (gb_lo (by omega)) (gb_lo (by omega))⟩⟩
