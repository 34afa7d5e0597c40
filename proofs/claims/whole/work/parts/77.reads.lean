/-- the byte at a place of a row, or none -/
def hb (B : Nat → Int32) (N p : Nat) : Int32 := if p < N then B p else (-1000)
def inB (B : Nat → Int32) (N p lo hi : Nat) : Bool := decide (p < N) && wi (B p) (nI lo) (nI hi)
/-- a number's worth -/
def dgt (B : Nat → Int32) (lo p : Nat) : Nat := (B p).toNatClampNeg - lo
def ce (B : Nat → Int32) (p : Nat) : Nat := 12 * dgt B 48 (p + 1) + dgt B 97 p
theorem wi_two {x : Int32} {lo hi : Nat} (hl : lo < 1000) (hh : hi < 1000) (h : wi x (nI lo) (nI hi) = true) : ∃ j : Nat, lo ≤ j ∧ j ≤ hi ∧ x = nI j := by
  rcases sw_cases x lo hi (by omega) with q | q
  · exact q
  · rw [wi, Bool.and_eq_true, decide_eq_true_eq, decide_eq_true_eq, Int32.le_iff_toInt_le, Int32.le_iff_toInt_le, nI_toInt (by omega), nI_toInt (by omega)] at h
    omega
theorem hb_in (B : Nat → Int32) (N p : Nat) {lo hi : Nat} (hl : lo < 1000) : wi (hb B N p) (nI lo) (nI hi) = inB B N p lo hi := by
  unfold hb inB
  by_cases q : p < N
  · rw [if_pos q, decide_eq_true q, Bool.true_and]
  · rw [if_neg q, decide_eq_false q, Bool.false_and, wi]
    rw [decide_eq_false (fun y => by
      rw [Int32.le_iff_toInt_le, nI_toInt (by omega)] at y
      have : (-1000 : Int32).toInt = -1000 := by decide
      omega)]
    rfl
theorem inB_ex {B : Nat → Int32} {N p lo hi : Nat} (hl : lo < 1000) (hh : hi < 1000) (h : inB B N p lo hi = true) : p < N ∧ hb B N p = nI (lo + dgt B lo p) ∧ B p = nI (lo + dgt B lo p) ∧ dgt B lo p ≤ hi - lo := by
  rw [inB, Bool.and_eq_true] at h
  have hp := of_decide_eq_true h.1
  obtain ⟨j, j1, j2, e⟩ := wi_two hl hh h.2
  have hd : dgt B lo p = j - lo := by rw [dgt, e, clampI (by omega)]
  rw [hb, if_pos hp, hd, e, show lo + (j - lo) = j by omega]
  exact ⟨hp, rfl, rfl, by omega⟩
theorem hb_eq {B : Nat → Int32} {N p c : Nat} (hc : c < 1000) : hb B N p = nI c ↔ inB B N p c c = true := by
  rw [← hb_in B N p hc, wi, Bool.and_eq_true, decide_eq_true_eq, decide_eq_true_eq]
  exact ⟨fun q => by rw [q]; exact ⟨Int32.le_refl _, Int32.le_refl _⟩, fun q => Int32.le_antisymm q.2 q.1⟩
/-- the reference, reading: its place, how many numbers it was told, the numbers -/
def RH (h : MH) (b0 : Bool) (th : Int32) (i N p t : Nat) (NB : Nat → Int32) : MH := hset (hset h 78 (.inr (6, moF b0 th (nI p) (nI (100 * i)) (nI N) (nI t)))) 89 (ia 6 NB)
theorem RH_78 (h : MH) (b0 : Bool) (th : Int32) (i N p t : Nat) (NB : Nat → Int32) : RH h b0 th i N p t NB 78 = some (.inr (6, moF b0 th (nI p) (nI (100 * i)) (nI N) (nI t))) := o_ne (hset_self _ _ _) (by decide)
theorem RH_89 (h : MH) (b0 : Bool) (th : Int32) (i N p t : Nat) (NB : Nat → Int32) : RH h b0 th i N p t NB 89 = some (ia 6 NB) := hset_self _ _ _
theorem RH_no {h : MH} {b0 : Bool} {th : Int32} {i N p t : Nat} {NB : Nat → Int32} {q : Nat} (h1 : q ≠ 78) (h2 : q ≠ 89) : RH h b0 th i N p t NB q = h q := by rw [RH, hset_ne _ _ h2, hset_ne _ _ h1]
theorem RH_s78 (h : MH) (b0 : Bool) (th : Int32) (i N p t : Nat) (NB : Nat → Int32) (p1 t1 : Nat) : hset (RH h b0 th i N p t NB) 78 (.inr (6, moF b0 th (nI p1) (nI (100 * i)) (nI N) (nI t1))) = RH h b0 th i N p1 t1 NB := by rw [RH, hset_comm _ _ _ (by decide), hset_hset, RH]
theorem RH_s89 (h : MH) (b0 : Bool) (th : Int32) (i N p t : Nat) (NB X : Nat → Int32) : hset (RH h b0 th i N p t NB) 89 (ia 6 X) = RH h b0 th i N p t X := by rw [RH, hset_hset, RH]
/-- how a reader of it ends -/
def Rq (h : MH) (b0 : Bool) (th : Int32) (i N : Nat) (ok : Bool) (p : Nat) (G : Nat → (Nat → Int32) → Prop) (n : Nat) : Option Value → MH → Nat → Prop := fun r h1 n1 => r = some (.int (bI ok)) ∧ n1 = n ∧ ∃ (t : Nat) (NB : Nat → Int32), h1 = RH h b0 th i N p t NB ∧ (ok = true → G t NB)
def Tl (NB : Nat → Int32) (t v : Nat) : Nat → (Nat → Int32) → Prop := fun t1 NB1 => t1 = t + 1 ∧ NB1 t = nI v ∧ ∀ j, j < t → NB1 j = NB j
theorem V.callRq {l : Launch} {M : MT} {d pc : Nat} {ls : List (Option Value)} {st : List Value} {n c z : Nat} {Q : Option Value → MH → Nat → Prop} {N : MT} {idx k : Nat} {h : MH} {b0 : Bool} {th : Int32} {i L p t p1 : Nat} {NB : Nat → Int32} {ok : Bool} {G : Nat → (Nat → Int32) → Prop} (As : List Value) (hd : decode M.2.1 pc = .ok (.invokevirtual idx, 3)) (hk : LkV M.1.cls idx N k) (hA : As.length = k) (hlen : (ls0 (.ref 78 :: As)).length ≤ N.2.2.1) (hst : (st.map fun v => v.category).sum ≤ 8)
    (hci : (classes[6]?).map (fun q => q.1) = some N.1.cls) (sp : Sp l N d (.ref 78 :: As) (RH h b0 th i L p t NB) n 0 0 (Rq h b0 th i L ok p1 G n)) (kk : ∀ (t1 : Nat) (NB1 : Nat → Int32), (ok = true → G t1 NB1) → V l M (d + 1) (pc + 3) ls (.int (bI ok) :: st) (RH h b0 th i L p1 t1 NB1) n c z Q) : V l M (d + 1) pc ls (As.reverse ++ .ref 78 :: st) (RH h b0 th i L p t NB) n c z Q :=
  V.callV (c := c) (z := z) As hd hk hA hlen hst (RH_78 _ _ _ _ _ _ _ _) hci sp (fun r h1 n1 q => by obtain ⟨rfl, rfl, t1, NB1, rfl, g⟩ := q; exact kk t1 NB1 g)
set_option maxRecDepth 20000 in
set_option maxHeartbeats 4000000 in
theorem s6_here (l : Launch) (d : Nat) (h : MH) (n : Nat) (b0 : Bool) (th : Int32) (i N : Nat) (hi : i < 8) (hN : N ≤ 100) (X : Nat → Int32) (hx : h 86 = some (ia 800 X)) (B : Nat → Int32) (hB : ∀ k, k < 100 → B k = X (100 * i + k)) (p t : Nat) (NB : Nat → Int32) (hp : p < 1000)  : Sp l mX6_here d [.ref 78] (RH h b0 th i N p t NB) n 0 0 (Pv (hb B N p) (RH h b0 th i N p t NB) n) := by
  show V _ _ _ _ [some (.ref 78)] _ _ _ _ _ _
  refine V.aload_n dX6_here_0 rfl ?_
  refine V.getf dX6_here_1 fl_X6_90 (RH_78 _ _ _ _ _ _ _ _) rfl ?_
  refine V.aload_n dX6_here_4 rfl ?_
  refine V.getf dX6_here_5 fl_X6_93 (RH_78 _ _ _ _ _ _ _ _) rfl ?_
  refine V.icmp_geN (tgt := 28) dX6_here_8 (by decide) (by omega) (by omega) (fun q => ?_) (fun q => ?_)
  · refine V.sipush (v := -1000) dX6_here_28 (by decide) ?_
    exact V.iret (by exact dX6_here_31) rfl rfl ⟨by rw [hb, if_neg (by omega)], rfl, rfl⟩
  · refine V.aload_n dX6_here_11 rfl ?_
    refine V.getf dX6_here_12 fl_X6_31 (RH_78 _ _ _ _ _ _ _ _) rfl ?_
    refine V.aload_n dX6_here_15 rfl ?_
    refine V.getf dX6_here_16 fl_X6_96 (RH_78 _ _ _ _ _ _ _ _) rfl ?_
    refine V.aload_n dX6_here_19 rfl ?_
    refine V.getf dX6_here_20 fl_X6_90 (RH_78 _ _ _ _ _ _ _ _) rfl ?_
    refine V.iaddN dX6_here_23 ?_
    refine V.ialdN dX6_here_24 ((RH_no (by decide) (by decide)).trans hx) (by omega) (by decide) ?_
    refine V.goto (tgt := 31) dX6_here_25 (by decide) ?_
    exact V.iret (by exact dX6_here_31) rfl rfl ⟨by rw [hb, if_pos q, hB p (by omega)], rfl, rfl⟩
set_option maxRecDepth 20000 in
set_option maxHeartbeats 4000000 in
theorem s6_takes (l : Launch) (d : Nat) (h : MH) (n : Nat) (b0 : Bool) (th : Int32) (i N : Nat) (hi : i < 8) (hN : N ≤ 100) (X : Nat → Int32) (hx : h 86 = some (ia 800 X)) (B : Nat → Int32) (hB : ∀ k, k < 100 → B k = X (100 * i + k)) (p t : Nat) (NB : Nat → Int32) (hp : p < 1000) (c : Nat) (hc : c < 1000) : Sp l mX6_takes (d + 1) [.ref 78, .int (nI c)] (RH h b0 th i N p t NB) n 0 0 (Rq h b0 th i N (inB B N p c c) (if inB B N p c c = true then p + 1 else p) (fun t1 NB1 => t1 = t ∧ NB1 = NB) n) := by
  show V _ _ _ _ [some (.ref 78), some (.int (nI c))] _ _ _ _ _ _
  refine V.aload_n dX6_takes_0 rfl ?_
  refine V.callVv [] dX6_takes_1 lk_X6_99 rfl (Nat.le_of_ble_eq_true rfl) (Nat.le_of_ble_eq_true rfl) (RH_78 _ _ _ _ _ _ _ _) rfl (s6_here l _ h n b0 th i N hi hN X hx B hB p _ _ hp) ?_
  refine V.iload_n dX6_takes_4 rfl ?_
  refine V.icmp_eq (tgt := 10) dX6_takes_5 (by decide) (fun q => ?_) (fun q => ?_)
  · have q1 := (hb_eq hc).mp q
    rw [q1, if_pos rfl]
    refine V.aload_n dX6_takes_10 rfl ?_
    refine V.dup dX6_takes_11 rfl ?_
    refine V.getf dX6_takes_12 fl_X6_90 (RH_78 _ _ _ _ _ _ _ _) rfl ?_
    refine V.iconst (v := nI 1) dX6_takes_15 (by decide) ?_
    refine V.iaddN dX6_takes_16 ?_
    refine V.putf dX6_takes_17 fp_X6_90 (RH_78 _ _ _ _ _ _ _ _) (Nat.le_of_ble_eq_true rfl) (fun _ => ⟨rfl, rfl⟩) ?_
    change V _ _ _ _ _ _ (hset (RH h b0 th i N p t NB) 78 (.inr (6, moF b0 th (nI (p + 1)) (nI (100 * i)) (nI N) (nI (t))))) _ _ _ _
    rw [RH_s78]
    refine V.iconst (v := nI 1) dX6_takes_20 (by decide) ?_
    exact V.iret (by exact dX6_takes_21) rfl (bI_narrow true) ⟨rfl, rfl, t, NB, rfl, fun _ => ⟨rfl, rfl⟩⟩
  · have q1 : inB B N p c c = false := by
      cases y : inB B N p c c with
      | false => rfl
      | true => exact absurd ((hb_eq hc).mpr y) q
    rw [q1, if_neg (by decide)]
    refine V.iconst (v := nI 0) dX6_takes_8 (by decide) ?_
    exact V.iret (by exact dX6_takes_9) rfl (bI_narrow false) ⟨rfl, rfl, t, NB, rfl, fun y => by cases y⟩
set_option maxRecDepth 20000 in
set_option maxHeartbeats 4000000 in
theorem s6_readsOf (l : Launch) (d : Nat) (h : MH) (n : Nat) (b0 : Bool) (th : Int32) (i N : Nat) (hi : i < 8) (hN : N ≤ 100) (X : Nat → Int32) (hx : h 86 = some (ia 800 X)) (B : Nat → Int32) (hB : ∀ k, k < 100 → B k = X (100 * i + k)) (p t : Nat) (NB : Nat → Int32) (hp : p < 1000) (lo hj : Nat) (hlo : lo < 1000) (hhi : hj < 1000) (ht : t < 6) : Sp l mX6_readsOf (d + 1) [.ref 78, .int (nI lo), .int (nI hj)] (RH h b0 th i N p t NB) n 0 0 (Rq h b0 th i N (inB B N p lo hj) (if inB B N p lo hj = true then p + 1 else p) (Tl NB t (dgt B lo p)) n) := by
  show V _ _ _ _ [some (.ref 78), some (.int (nI lo)), some (.int (nI hj))] _ _ _ _ _ _
  refine V.aload_n dX6_readsOf_0 rfl ?_
  refine V.callVv [] dX6_readsOf_1 lk_X6_99 rfl (Nat.le_of_ble_eq_true rfl) (Nat.le_of_ble_eq_true rfl) (RH_78 _ _ _ _ _ _ _ _) rfl (s6_here l _ h n b0 th i N hi hN X hx B hB p _ _ hp) ?_
  refine V.i2l dX6_readsOf_4 ?_
  refine V.iload_n dX6_readsOf_5 rfl ?_
  refine V.i2l dX6_readsOf_6 ?_
  refine V.iload_n dX6_readsOf_7 rfl ?_
  refine V.i2l dX6_readsOf_8 ?_
  refine V.callSv [_, _, _] dX6_readsOf_9 lk_X6_62 rfl (Nat.le_of_ble_eq_true rfl) (Nat.le_of_ble_eq_true rfl) (s6_isInC _ _ _ _ _ rfl rfl _ _) ?_
  rw [hb_in B N p hlo]
  refine V.if_neB (tgt := 17) dX6_readsOf_12 (by decide) (fun q => ?_) (fun q => ?_)
  · obtain ⟨q1, q2, q3, q4⟩ := inB_ex hlo hhi q
    rw [q, if_pos rfl]
    refine V.aload_n dX6_readsOf_17 rfl ?_
    refine V.getf dX6_readsOf_18 fl_X6_40 (RH_78 _ _ _ _ _ _ _ _) rfl ?_
    refine V.aload_n dX6_readsOf_21 rfl ?_
    refine V.getf dX6_readsOf_22 fl_X6_103 (RH_78 _ _ _ _ _ _ _ _) rfl ?_
    refine V.aload_n dX6_readsOf_25 rfl ?_
    refine V.callVv [] dX6_readsOf_26 lk_X6_99 rfl (Nat.le_of_ble_eq_true rfl) (Nat.le_of_ble_eq_true rfl) (RH_78 _ _ _ _ _ _ _ _) rfl (s6_here l _ h n b0 th i N hi hN X hx B hB p _ _ hp) ?_
    rw [q2]
    refine V.iload_n dX6_readsOf_29 rfl ?_
    refine V.isubN dX6_readsOf_30 (by omega) ?_
    refine V.iastN dX6_readsOf_31 (RH_89 _ _ _ _ _ _ _ _) (by omega) (by decide) ?_
    rw [show lo + dgt B lo p - lo = dgt B lo p by omega]
    change V _ _ _ _ _ _ (hset (RH h b0 th i N p t NB) 89 (ia 6 (upd NB t (nI (dgt B lo p))))) _ _ _ _
    rw [RH_s89]
    refine V.aload_n dX6_readsOf_32 rfl ?_
    refine V.dup dX6_readsOf_33 rfl ?_
    refine V.getf dX6_readsOf_34 fl_X6_103 (RH_78 _ _ _ _ _ _ _ _) rfl ?_
    refine V.iconst (v := nI 1) dX6_readsOf_37 (by decide) ?_
    refine V.iaddN dX6_readsOf_38 ?_
    refine V.putf dX6_readsOf_39 fp_X6_103 (RH_78 _ _ _ _ _ _ _ _) (Nat.le_of_ble_eq_true rfl) (fun _ => ⟨rfl, rfl⟩) ?_
    change V _ _ _ _ _ _ (hset (RH h b0 th i N p t (upd NB t (nI (dgt B lo p)))) 78 (.inr (6, moF b0 th (nI (p)) (nI (100 * i)) (nI N) (nI (t + 1))))) _ _ _ _
    rw [RH_s78]
    refine V.aload_n dX6_readsOf_42 rfl ?_
    refine V.dup dX6_readsOf_43 rfl ?_
    refine V.getf dX6_readsOf_44 fl_X6_90 (RH_78 _ _ _ _ _ _ _ _) rfl ?_
    refine V.iconst (v := nI 1) dX6_readsOf_47 (by decide) ?_
    refine V.iaddN dX6_readsOf_48 ?_
    refine V.putf dX6_readsOf_49 fp_X6_90 (RH_78 _ _ _ _ _ _ _ _) (Nat.le_of_ble_eq_true rfl) (fun _ => ⟨rfl, rfl⟩) ?_
    change V _ _ _ _ _ _ (hset (RH h b0 th i N p (t + 1) (upd NB t (nI (dgt B lo p)))) 78 (.inr (6, moF b0 th (nI (p + 1)) (nI (100 * i)) (nI N) (nI (t + 1))))) _ _ _ _
    rw [RH_s78]
    refine V.iconst (v := nI 1) dX6_readsOf_52 (by decide) ?_
    exact V.iret (by exact dX6_readsOf_53) rfl (bI_narrow true) ⟨rfl, rfl, t + 1, upd NB t (nI (dgt B lo p)), rfl, fun _ => ⟨rfl, pk_us, fun j hj => pk_un (by omega)⟩⟩
  · rw [q, if_neg (by decide)]
    refine V.iconst (v := nI 0) dX6_readsOf_15 (by decide) ?_
    exact V.iret (by exact dX6_readsOf_16) rfl (bI_narrow false) ⟨rfl, rfl, t, NB, rfl, fun y => by cases y⟩
set_option maxRecDepth 20000 in
set_option maxHeartbeats 4000000 in
theorem s6_readsDigit (l : Launch) (d : Nat) (h : MH) (n : Nat) (b0 : Bool) (th : Int32) (i N : Nat) (hi : i < 8) (hN : N ≤ 100) (X : Nat → Int32) (hx : h 86 = some (ia 800 X)) (B : Nat → Int32) (hB : ∀ k, k < 100 → B k = X (100 * i + k)) (p t : Nat) (NB : Nat → Int32) (hp : p < 1000) (ht : t < 6) : Sp l mX6_readsDigit (d + 2) [.ref 78] (RH h b0 th i N p t NB) n 0 0 (Rq h b0 th i N (inB B N p 48 57) (if inB B N p 48 57 = true then p + 1 else p) (Tl NB t (dgt B 48 p)) n) := by
  show V _ _ _ _ [some (.ref 78)] _ _ _ _ _ _
  refine V.aload_n dX6_readsDigit_0 rfl ?_
  refine V.bipush (v := nI 48) dX6_readsDigit_1 (by decide) ?_
  refine V.bipush (v := nI 57) dX6_readsDigit_3 (by decide) ?_
  refine V.callRq [_, _] dX6_readsDigit_5 lk_X6_106 rfl (Nat.le_of_ble_eq_true rfl) (Nat.le_of_ble_eq_true rfl) rfl (s6_readsOf l _ h n b0 th i N hi hN X hx B hB p t NB hp 48 57 (by omega) (by omega) ht) (fun t1 NB1 g => ?_)
  exact V.iret (by exact dX6_readsDigit_8) rfl (bI_narrow _) ⟨rfl, rfl, t1, NB1, rfl, g⟩
def clO (B : Nat → Int32) (N p : Nat) : Bool := inB B N p 97 108 && inB B N (p + 1) 48 54
def clP (B : Nat → Int32) (N p : Nat) : Nat := if inB B N p 97 108 = true then (if inB B N (p + 1) 48 54 = true then p + 2 else p + 1) else p
theorem ce_lt {B : Nat → Int32} {N p : Nat} (h : clO B N p = true) : ce B p < 84 := by
  rw [clO, Bool.and_eq_true] at h
  have h1 := (inB_ex (by omega) (by omega) h.1).2.2.2
  have h2 := (inB_ex (by omega) (by omega) h.2).2.2.2
  unfold ce
  omega
set_option maxRecDepth 20000 in
set_option maxHeartbeats 4000000 in
theorem s6_readsCell (l : Launch) (d : Nat) (h : MH) (n : Nat) (b0 : Bool) (th : Int32) (i N : Nat) (hi : i < 8) (hN : N ≤ 100) (X : Nat → Int32) (hx : h 86 = some (ia 800 X)) (B : Nat → Int32) (hB : ∀ k, k < 100 → B k = X (100 * i + k)) (p t : Nat) (NB : Nat → Int32) (hp : p < 1000) (ht : t < 5) : Sp l mX6_readsCell (d + 2) [.ref 78] (RH h b0 th i N p t NB) n 0 0 (Rq h b0 th i N (clO B N p) (clP B N p) (Tl NB t (ce B p)) n) := by
  show V _ _ _ _ [some (.ref 78)] _ _ _ _ _ _
  rw [clO, clP]
  refine V.aload_n dX6_readsCell_0 rfl ?_
  refine V.bipush (v := nI 97) dX6_readsCell_1 (by decide) ?_
  refine V.bipush (v := nI 108) dX6_readsCell_3 (by decide) ?_
  refine V.callRq [_, _] dX6_readsCell_5 lk_X6_106 rfl (Nat.le_of_ble_eq_true rfl) (Nat.le_of_ble_eq_true rfl) rfl (s6_readsOf l _ h n b0 th i N hi hN X hx B hB p t NB hp 97 108 (by omega) (by omega) (by omega)) (fun t1 NB1 g => ?_)
  refine V.if_eqB (tgt := 22) dX6_readsCell_8 (by decide) (fun q => ?_) (fun q => ?_)
  · rw [q]
    refine V.iconst (v := nI 0) dX6_readsCell_22 (by decide) ?_
    exact V.iret (by exact dX6_readsCell_23) rfl (bI_narrow false) ⟨rfl, rfl, t1, NB1, rfl, fun y => by cases y⟩
  obtain ⟨rfl, g1, g2⟩ := g q
  rw [q, if_pos rfl, if_pos rfl, Bool.true_and]
  refine V.aload_n dX6_readsCell_11 rfl ?_
  refine V.bipush (v := nI 48) dX6_readsCell_12 (by decide) ?_
  refine V.bipush (v := nI 54) dX6_readsCell_14 (by decide) ?_
  refine V.callRq [_, _] dX6_readsCell_16 lk_X6_106 rfl (Nat.le_of_ble_eq_true rfl) (Nat.le_of_ble_eq_true rfl) rfl (s6_readsOf l _ h n b0 th i N hi hN X hx B hB (p + 1) (t + 1) NB1 (by have := (inB_ex (by omega) (by omega) q).1; omega) 48 54 (by omega) (by omega) (by omega)) (fun t2 NB2 g3 => ?_)
  refine V.if_neB (tgt := 24) dX6_readsCell_19 (by decide) (fun q2 => ?_) (fun q2 => ?_)
  · obtain ⟨rfl, g4, g5⟩ := g3 q2
    have g6 := g5 t (by omega)
    rw [g1] at g6
    rw [q2, if_pos rfl]
    refine V.aload_n dX6_readsCell_24 rfl ?_
    refine V.dup dX6_readsCell_25 rfl ?_
    refine V.getf dX6_readsCell_26 fl_X6_103 (RH_78 _ _ _ _ _ _ _ _) rfl ?_
    refine V.iconst (v := nI 1) dX6_readsCell_29 (by decide) ?_
    refine V.isubN dX6_readsCell_30 (by omega) ?_
    refine V.putf dX6_readsCell_31 fp_X6_103 (RH_78 _ _ _ _ _ _ _ _) (Nat.le_of_ble_eq_true rfl) (fun _ => ⟨rfl, rfl⟩) ?_
    change V _ _ _ _ _ _ (hset (RH h b0 th i N (p + 1 + 1) (t + 1 + 1) NB2) 78 (.inr (6, moF b0 th (nI (p + 1 + 1)) (nI (100 * i)) (nI N) (nI (t + 1 + 1 - 1))))) _ _ _ _
    rw [RH_s78]
    rw [show t + 1 + 1 - 1 = t + 1 by omega]
    refine V.aload_n dX6_readsCell_34 rfl ?_
    refine V.getf dX6_readsCell_35 fl_X6_40 (RH_78 _ _ _ _ _ _ _ _) rfl ?_
    refine V.aload_n dX6_readsCell_38 rfl ?_
    refine V.getf dX6_readsCell_39 fl_X6_103 (RH_78 _ _ _ _ _ _ _ _) rfl ?_
    refine V.iconst (v := nI 1) dX6_readsCell_42 (by decide) ?_
    refine V.isubN dX6_readsCell_43 (by omega) ?_
    rw [show t + 1 - 1 = t by omega]
    refine V.dup2 dX6_readsCell_44 rfl rfl ?_
    refine V.ialdN dX6_readsCell_45 (RH_89 _ _ _ _ _ _ _ _) (by omega) (by decide) ?_
    rw [g6]
    refine V.bipush (v := nI 12) dX6_readsCell_46 (by decide) ?_
    refine V.aload_n dX6_readsCell_48 rfl ?_
    refine V.getf dX6_readsCell_49 fl_X6_40 (RH_78 _ _ _ _ _ _ _ _) rfl ?_
    refine V.aload_n dX6_readsCell_52 rfl ?_
    refine V.getf dX6_readsCell_53 fl_X6_103 (RH_78 _ _ _ _ _ _ _ _) rfl ?_
    refine V.ialdN dX6_readsCell_56 (RH_89 _ _ _ _ _ _ _ _) (by omega) (by decide) ?_
    rw [g4]
    refine V.imulN dX6_readsCell_57 ?_
    refine V.iaddN dX6_readsCell_58 ?_
    refine V.iastN dX6_readsCell_59 (RH_89 _ _ _ _ _ _ _ _) (by omega) (by decide) ?_
    change V _ _ _ _ _ _ (hset (RH h b0 th i N (p + 1 + 1) (t + 1) NB2) 89 (ia 6 (upd NB2 t _))) _ _ _ _
    rw [RH_s89]
    refine V.iconst (v := nI 1) dX6_readsCell_60 (by decide) ?_
    exact V.iret (by exact dX6_readsCell_61) rfl (bI_narrow true) ⟨rfl, rfl, t + 1, _, rfl, fun _ => ⟨rfl, by rw [pk_us, ce, Nat.add_comm], fun j hj => by rw [pk_un (by omega), g5 j (by omega), g2 j hj]⟩⟩
  · rw [q2, if_neg (by decide)]
    refine V.iconst (v := nI 0) dX6_readsCell_22 (by decide) ?_
    exact V.iret (by exact dX6_readsCell_23) rfl (bI_narrow false) ⟨rfl, rfl, t2, NB2, rfl, fun y => by cases y⟩
