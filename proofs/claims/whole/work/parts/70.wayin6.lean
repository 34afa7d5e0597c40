set_option maxRecDepth 20000 in
set_option maxHeartbeats 4000000 in
theorem s6_seenBy_loop (l : Launch) (d : Nat) (h : MH) (n : Nat) (K : KK) (b : Bool) (th po ba en tt : Int32) (hm0 : h 78 = some (.inr (6, moF b th po ba en tt))) (ha : h 79 = some (kc K)) (m : Nat) (hm : K 90 = nI m) (hm10 : m ≤ 10) (s : Int32) (c : Nat) (hc : c < 84) : ∀ (r i : Nat), i + r = m → V l mX6_seenBy (d + 3) 5 [some (.ref 78), some (.int s), some (.int (nI c)), some (.int (nI (cN (wtB K s (nI c)) i))), some (.int (nI i))] [] h n 0 0 (Pv (nI (cN (wtB K s (nI c)) m)) h n) := by
  intro r
  induction r with
  | zero =>
    intro i hi
    have hm2 := hm
    refine V.iload dX6_seenBy_5 rfl ?_
    refine V.aload_n dX6_seenBy_7 rfl ?_
    refine V.getf dX6_seenBy_8 fl_X6_9 hm0 rfl ?_
    refine V.bipush (v := nI 90) dX6_seenBy_11 (by decide) ?_
    refine V.ialdN dX6_seenBy_13 ha (by omega) (by decide) ?_
    rw [hm]
    refine V.icmp_geN (tgt := 70) dX6_seenBy_14 (by decide) (by omega) (by omega) (fun _ => ?_) (fun q => absurd q (by omega))
    refine V.iload_n dX6_seenBy_70 rfl ?_
    exact V.iretP (by exact dX6_seenBy_71) rfl (by rw [show i = m by omega]) rfl
  | succ r ih =>
    intro i hi
    have hm2 := hm
    refine V.iload dX6_seenBy_5 rfl ?_
    refine V.aload_n dX6_seenBy_7 rfl ?_
    refine V.getf dX6_seenBy_8 fl_X6_9 hm0 rfl ?_
    refine V.bipush (v := nI 90) dX6_seenBy_11 (by decide) ?_
    refine V.ialdN dX6_seenBy_13 ha (by omega) (by decide) ?_
    rw [hm]
    refine V.icmp_geN (tgt := 70) dX6_seenBy_14 (by decide) (by omega) (by omega) (fun q => absurd q (by omega)) (fun _ => ?_)
    refine V.iload_n dX6_seenBy_17 rfl ?_
    refine V.aload_n dX6_seenBy_18 rfl ?_
    refine V.getf dX6_seenBy_19 fl_X6_9 hm0 rfl ?_
    refine V.iload dX6_seenBy_22 rfl ?_
    refine V.iconst (v := nI 0) dX6_seenBy_24 (by decide) ?_
    refine V.callSv [_, _, _] dX6_seenBy_25 lk_X6_82 rfl (Nat.le_of_ble_eq_true rfl) (Nat.le_of_ble_eq_true rfl) (s6_get _ _ _ _ _ _ ha _ _ (by omega) (by omega)) ?_
    refine V.iload_n dX6_seenBy_28 rfl ?_
    refine V.icmp_ne (tgt := 61) dX6_seenBy_29 (by decide) (fun c29 => ?_) (fun c29 => ?_)
    · refine V.iconst (v := nI 0) dX6_seenBy_61 (by decide) ?_
      refine V.iaddN dX6_seenBy_62 ?_
      refine V.ist3 dX6_seenBy_63 (by decide) rfl ?_
      refine V.inN4 dX6_seenBy_64 (by decide) rfl ?_
      refine V.goto (tgt := 5) dX6_seenBy_67 (by decide) ?_
      exact V.ls (by (try simp only [← Int32.not_le, Classical.not_not, decide_eq_true_eq, decide_eq_false_iff_not] at c29); simp only [cN, wtB, ← Int32.not_le, c29, List.set_cons_succ, List.set_cons_zero, not_true_eq_false, not_false_eq_true, if_true, if_false, decide_true, decide_false, Bool.and_true, Bool.and_false, Bool.true_and, Bool.false_and, Bool.or_true, Bool.or_false, Bool.true_or, Bool.false_or, Bool.not_true, Bool.not_false, and_true, and_false, true_and, false_and, or_true, or_false, true_or, false_or, bIt, bIf, Bool.false_eq_true, reduceCtorEq, Nat.add_zero, Int32.add_zero, nI_add] <;> rfl) (ih (i + 1) (by omega))
    · refine V.aload_n dX6_seenBy_32 rfl ?_
      refine V.getf dX6_seenBy_33 fl_X6_9 hm0 rfl ?_
      refine V.iload dX6_seenBy_36 rfl ?_
      refine V.callSv [_, _] dX6_seenBy_38 lk_X6_181 rfl (Nat.le_of_ble_eq_true rfl) (Nat.le_of_ble_eq_true rfl) (s6_isFree _ _ _ _ _ _ ha _ (by omega)) ?_
      refine V.if_eqB (tgt := 61) dX6_seenBy_41 (by decide) (fun c41 => ?_) (fun c41 => ?_)
      · refine V.iconst (v := nI 0) dX6_seenBy_61 (by decide) ?_
        refine V.iaddN dX6_seenBy_62 ?_
        refine V.ist3 dX6_seenBy_63 (by decide) rfl ?_
        refine V.inN4 dX6_seenBy_64 (by decide) rfl ?_
        refine V.goto (tgt := 5) dX6_seenBy_67 (by decide) ?_
        exact V.ls (by (try simp only [← Int32.not_le, Classical.not_not, decide_eq_true_eq, decide_eq_false_iff_not] at c29 c41); simp only [cN, wtB, ← Int32.not_le, eq_true c29, c41, List.set_cons_succ, List.set_cons_zero, not_true_eq_false, not_false_eq_true, if_true, if_false, decide_true, decide_false, Bool.and_true, Bool.and_false, Bool.true_and, Bool.false_and, Bool.or_true, Bool.or_false, Bool.true_or, Bool.false_or, Bool.not_true, Bool.not_false, and_true, and_false, true_and, false_and, or_true, or_false, true_or, false_or, bIt, bIf, Bool.false_eq_true, reduceCtorEq, Nat.add_zero, Int32.add_zero, nI_add] <;> rfl) (ih (i + 1) (by omega))
      · refine V.aload_n dX6_seenBy_44 rfl ?_
        refine V.getf dX6_seenBy_45 fl_X6_9 hm0 rfl ?_
        refine V.iload dX6_seenBy_48 rfl ?_
        refine V.iload_n dX6_seenBy_50 rfl ?_
        refine V.callSv [_, _, _] dX6_seenBy_51 lk_X6_185 rfl (Nat.le_of_ble_eq_true rfl) (Nat.le_of_ble_eq_true rfl) (s6_seesCell _ _ _ _ _ _ ha _ _ (by omega) hc) ?_
        refine V.if_eqB (tgt := 61) dX6_seenBy_54 (by decide) (fun c54 => ?_) (fun c54 => ?_)
        · refine V.iconst (v := nI 0) dX6_seenBy_61 (by decide) ?_
          refine V.iaddN dX6_seenBy_62 ?_
          refine V.ist3 dX6_seenBy_63 (by decide) rfl ?_
          refine V.inN4 dX6_seenBy_64 (by decide) rfl ?_
          refine V.goto (tgt := 5) dX6_seenBy_67 (by decide) ?_
          exact V.ls (by (try simp only [← Int32.not_le, Classical.not_not, decide_eq_true_eq, decide_eq_false_iff_not] at c29 c41 c54); simp only [cN, wtB, ← Int32.not_le, eq_true c29, c41, c54, List.set_cons_succ, List.set_cons_zero, not_true_eq_false, not_false_eq_true, if_true, if_false, decide_true, decide_false, Bool.and_true, Bool.and_false, Bool.true_and, Bool.false_and, Bool.or_true, Bool.or_false, Bool.true_or, Bool.false_or, Bool.not_true, Bool.not_false, and_true, and_false, true_and, false_and, or_true, or_false, true_or, false_or, bIt, bIf, Bool.false_eq_true, reduceCtorEq, Nat.add_zero, Int32.add_zero, nI_add] <;> rfl) (ih (i + 1) (by omega))
        · refine V.iconst (v := nI 1) dX6_seenBy_57 (by decide) ?_
          refine V.goto (tgt := 62) dX6_seenBy_58 (by decide) ?_
          refine V.iaddN dX6_seenBy_62 ?_
          refine V.ist3 dX6_seenBy_63 (by decide) rfl ?_
          refine V.inN4 dX6_seenBy_64 (by decide) rfl ?_
          refine V.goto (tgt := 5) dX6_seenBy_67 (by decide) ?_
          exact V.ls (by (try simp only [← Int32.not_le, Classical.not_not, decide_eq_true_eq, decide_eq_false_iff_not] at c29 c41 c54); simp only [cN, wtB, ← Int32.not_le, eq_true c29, c41, c54, List.set_cons_succ, List.set_cons_zero, not_true_eq_false, not_false_eq_true, if_true, if_false, decide_true, decide_false, Bool.and_true, Bool.and_false, Bool.true_and, Bool.false_and, Bool.or_true, Bool.or_false, Bool.true_or, Bool.false_or, Bool.not_true, Bool.not_false, and_true, and_false, true_and, false_and, or_true, or_false, true_or, false_or, bIt, bIf, Bool.false_eq_true, reduceCtorEq, Nat.add_zero, Int32.add_zero, nI_add] <;> rfl) (ih (i + 1) (by omega))
set_option maxRecDepth 20000 in
set_option maxHeartbeats 4000000 in
theorem s6_seenBy (l : Launch) (d : Nat) (h : MH) (n : Nat) (K : KK) (b : Bool) (th po ba en tt : Int32) (hm0 : h 78 = some (.inr (6, moF b th po ba en tt))) (ha : h 79 = some (kc K)) (m : Nat) (hm : K 90 = nI m) (hm10 : m ≤ 10) (s : Int32) (c : Nat) (hc : c < 84) : Sp l mX6_seenBy (d + 3) [.ref 78, .int s, .int (nI c)] h n 0 0 (Pv (nI (sn K m s c)) h n) := by
  show V _ _ _ _ [some (.ref 78), some (.int s), some (.int (nI c)), none, none] _ _ _ _ _ _
  refine V.iconst (v := nI 0) dX6_seenBy_0 (by decide) ?_
  refine V.ist3 dX6_seenBy_1 (by decide) rfl ?_
  refine V.iconst (v := nI 0) dX6_seenBy_2 (by decide) ?_
  refine V.ist4 dX6_seenBy_3 (by decide) rfl ?_
  exact s6_seenBy_loop l d h n K b th po ba en tt hm0 ha m hm hm10 s c hc m 0 (by omega)
def LE (o : Option (Nat × Nat)) (v t : Nat) : Prop := ∃ q, o = some q ∧ (q.1 < v ∨ (q.1 = v ∧ q.2 ≤ t))
theorem LE_tr {o : Option (Nat × Nat)} {v t v1 t1 : Nat} (h : LE o v t) (h1 : v < v1 ∨ (v = v1 ∧ t ≤ t1)) : LE o v1 t1 := by
  obtain ⟨q, e, h2⟩ := h
  exact ⟨q, e, by omega⟩
theorem LE_not {q : Nat × Nat} {v t : Nat} (h : ¬ LE (some q) v t) : v < q.1 ∨ (v = q.1 ∧ t < q.2) := by
  have : ¬ (q.1 < v ∨ (q.1 = v ∧ q.2 ≤ t)) := fun y => h ⟨q, rfl, y⟩
  omega
def sI : Option (Nat × Nat) → Int32
  | none => -4
  | some q => nI q.1
def upP (P : Nat → Option (Nat × Nat)) (j0 : Nat) (q : Nat × Nat) : Nat → Option (Nat × Nat) := fun j => if j = j0 then some q else P j
theorem upP_s (P : Nat → Option (Nat × Nat)) (j0 : Nat) (q : Nat × Nat) : upP P j0 q j0 = some q := if_pos rfl
theorem upP_n (P : Nat → Option (Nat × Nat)) {j0 j : Nat} (q : Nat × Nat) (h : j ≠ j0) : upP P j0 q j = P j := if_neg h
section PIs
variable (K : KK) (m : Nat) (s : Int32) (c0 : Nat)
/-- entries are ways -/
def J1 (P : Nat → Option (Nat × Nat)) (Bd : Nat) : Prop := ∀ j, j < 84 → ∀ q, P j = some q → Wk K m s c0 q.2 j q.1 ∧ q.2 ≤ Bd
/-- what a pass over the cells has done, come to way w of cell c -/
def PI (P0 : Nat → Option (Nat × Nat)) (Bd c w : Nat) (P : Nat → Option (Nat × Nat)) (bt : Bool) : Prop :=
  J1 K m s c0 P (Bd + 4 * c + w) ∧ (∀ j, j < 84 → ∀ v t, LE (P0 j) v t → LE (P j) v t) ∧ (bt = false → ∀ j, j < 84 → P j = P0 j) ∧ (bt = true → ∃ t j v, Wk K m s c0 t j v ∧ j < 84 ∧ ¬ LE (P0 j) v t) ∧
  (∀ c1, c1 < c → ∀ j, adjC c1 j = true → opC K j = true → ∀ q, P0 c1 = some q → LE (P j) (q.1 + sn K m s j) (q.2 + 1)) ∧ (∀ w1, w1 < w → ∀ j, mbs c w1 = some j → opC K j = true → ∀ q, P0 c = some q → LE (P j) (q.1 + sn K m s j) (q.2 + 1))
variable {K m s c0}
theorem PI_up {P0 P : Nat → Option (Nat × Nat)} {Bd c w : Nat} {bt : Bool} (h : PI K m s c0 P0 Bd c w P bt) (hc : c < 84) (q : Nat × Nat) (hq : P c = some q) (j0 : Nat) (hj0 : j0 < 84) (hb : mbs c w = some j0) (hw : w < 4) (hop : opC K j0 = true) (hn : ¬ LE (P j0) (q.1 + sn K m s j0) (q.2 + 1)) : PI K m s c0 P0 Bd c (w + 1) (upP P j0 (q.1 + sn K m s j0, q.2 + 1)) true := by
  obtain ⟨a1, a2, a3, a4, a5, a6⟩ := h
  have hadj : adjC c j0 = true := (adj_MC c j0).symm.trans ((eB_iff _ _).mpr ⟨w, hw, decide_eq_true hb⟩)
  have hW : Wk K m s c0 (q.2 + 1) j0 (q.1 + sn K m s j0) := ⟨c, q.1, (a1 c hc q hq).1, hadj, hop, rfl⟩
  have mono : ∀ j v t, LE (P j) v t → LE (upP P j0 (q.1 + sn K m s j0, q.2 + 1) j) v t := fun j v t hL => by
    by_cases y : j = j0
    · subst y
      rw [upP_s]
      obtain ⟨q2, e, h2⟩ := hL
      rw [e] at hn
      have := LE_not hn
      exact ⟨_, rfl, by simp only; omega⟩
    · rw [upP_n _ _ y]; exact hL
  refine ⟨fun j hj q2 e => ?_, fun j hj v t hL => mono j v t (a2 j hj v t hL), fun y => absurd y (by decide), fun _ => ⟨_, j0, _, hW, hj0, fun hL => hn (a2 j0 hj0 _ _ hL)⟩, fun c1 h1 j h2 h3 q2 h4 => mono _ _ _ (a5 c1 h1 j h2 h3 q2 h4), fun w1 h1 j h2 h3 q2 h4 => ?_⟩
  · by_cases y : j = j0
    · subst y
      rw [upP_s] at e
      rw [← Option.some.inj e]
      have := (a1 c hc q hq).2
      exact ⟨hW, by simp only; omega⟩
    · rw [upP_n _ _ y] at e
      have := a1 j hj q2 e
      exact ⟨this.1, by omega⟩
  · by_cases y : w1 = w
    · subst y
      rw [hb] at h2
      have e := Option.some.inj h2
      subst e
      rw [upP_s]
      obtain ⟨q3, e3, h5⟩ := a2 c hc q2.1 q2.2 ⟨q2, h4, Or.inr ⟨rfl, Nat.le_refl _⟩⟩
      rw [hq] at e3
      have e4 := Option.some.inj e3
      subst e4
      exact ⟨_, rfl, by simp only; omega⟩
    · exact mono _ _ _ (a6 w1 (by omega) j h2 h3 q2 h4)
theorem PI_no {P0 P : Nat → Option (Nat × Nat)} {Bd c w : Nat} {bt : Bool} (h : PI K m s c0 P0 Bd c w P bt) (hc : c < 84) (q : Nat × Nat) (hq : P c = some q) (hn : ∀ j, mbs c w = some j → opC K j = true → LE (P j) (q.1 + sn K m s j) (q.2 + 1)) : PI K m s c0 P0 Bd c (w + 1) P bt := by
  obtain ⟨a1, a2, a3, a4, a5, a6⟩ := h
  refine ⟨fun j hj q2 e => ⟨(a1 j hj q2 e).1, by have := (a1 j hj q2 e).2; omega⟩, a2, a3, a4, a5, fun w1 h1 j h2 h3 q2 h4 => ?_⟩
  by_cases y : w1 = w
  · subst y
    obtain ⟨q3, e3, h5⟩ := a2 c hc q2.1 q2.2 ⟨q2, h4, Or.inr ⟨rfl, Nat.le_refl _⟩⟩
    rw [hq] at e3
    have e4 := Option.some.inj e3
    subst e4
    exact LE_tr (hn j h2 h3) (by omega)
  · exact a6 w1 (by omega) j h2 h3 q2 h4
theorem PI_nx {P0 P : Nat → Option (Nat × Nat)} {Bd c w : Nat} {bt : Bool} (h : PI K m s c0 P0 Bd c w P bt) (hc : c < 84) (hw : w ≤ 4) (he : w = 4 ∨ P c = none) : PI K m s c0 P0 Bd (c + 1) 0 P bt := by
  obtain ⟨a1, a2, a3, a4, a5, a6⟩ := h
  refine ⟨fun j hj q2 e => ⟨(a1 j hj q2 e).1, by have := (a1 j hj q2 e).2; omega⟩, a2, a3, a4, fun c1 h1 j h2 h3 q2 h4 => ?_, fun w1 h1 => absurd h1 (by omega)⟩
  by_cases y : c1 = c
  · subst y
    rcases he with e | e
    · subst e
      rw [← adj_MC] at h2
      obtain ⟨w1, hw1, e1⟩ := (eB_iff _ _).mp h2
      exact a6 w1 hw1 j (of_decide_eq_true e1) h3 q2 h4
    · obtain ⟨q3, e3, -⟩ := a2 c1 hc q2.1 q2.2 ⟨q2, h4, Or.inr ⟨rfl, Nat.le_refl _⟩⟩
      rw [e] at e3; cases e3
  · exact a5 c1 (by omega) j h2 h3 q2 h4
theorem PI_0 {P0 : Nat → Option (Nat × Nat)} {Bd : Nat} (h : J1 K m s c0 P0 Bd) : PI K m s c0 P0 Bd 0 0 P0 false :=
  ⟨fun j hj q e => ⟨(h j hj q e).1, by have := (h j hj q e).2; omega⟩, fun _ _ _ _ hL => hL, fun _ _ _ => rfl, fun y => absurd y (by decide), fun c1 h1 => absurd h1 (by omega), fun w1 h1 => absurd h1 (by omega)⟩
/-- nothing better was found: the entries are best -/
theorem PI_best {P0 P : Nat → Option (Nat × Nat)} {Bd : Nat} (h0 : c0 < 84) (h : PI K m s c0 P0 Bd 84 0 P false) (hz : LE (P0 c0) 0 0) : ∀ t j v, Wk K m s c0 t j v → LE (P j) v t := by
  obtain ⟨a1, a2, a3, a4, a5, a6⟩ := h
  intro t
  induction t with
  | zero => intro j v hW; obtain ⟨rfl, rfl⟩ := hW; exact a2 j h0 0 0 hz
  | succ t ih =>
    intro j v hW
    obtain ⟨b, u, h1, h2, h3, rfl⟩ := hW
    have hb := Wk_lt h0 h1
    obtain ⟨q, e, h5⟩ := ih b u h1
    rw [a3 rfl b hb] at e
    exact LE_tr (a5 b hb j h2 h3 q e) (by omega)
theorem PI_k {P0 P : Nat → Option (Nat × Nat)} {Bd k : Nat} {bt : Bool} (h0 : c0 < 84) (h : PI K m s c0 P0 Bd 84 0 P bt) (hk : ∀ t, t ≤ k → ∀ j v, Wk K m s c0 t j v → LE (P0 j) v t) : ∀ t, t ≤ k + 1 → ∀ j v, Wk K m s c0 t j v → LE (P j) v t := by
  obtain ⟨a1, a2, a3, a4, a5, a6⟩ := h
  intro t ht j v hW
  cases t with
  | zero => exact a2 j (Wk_lt h0 hW) _ _ (hk 0 (by omega) j v hW)
  | succ t =>
    obtain ⟨b, u, h1, h2, h3, rfl⟩ := hW
    have hb := Wk_lt h0 h1
    obtain ⟨q, e, h5⟩ := hk t (by omega) b u h1
    exact LE_tr (a5 b hb j h2 h3 q e) (by omega)
theorem all_k {P0 : Nat → Option (Nat × Nat)} {k : Nat} (h0 : c0 < 84) (hk : 83 ≤ k) (h : ∀ t, t ≤ k → ∀ j v, Wk K m s c0 t j v → LE (P0 j) v t) : ∀ t j v, Wk K m s c0 t j v → LE (P0 j) v t := fun t j v hW => by
  obtain ⟨t1, v1, a1, a2, a3, a4⟩ := Wk_short h0 t t j v (Nat.le_refl t) hW
  exact LE_tr (h t1 (by omega) j v1 a4) (by omega)
end PIs
/-- the reference's rows -/
def PR2 (h : MH) (A B : Nat → Int32) : MH := hset (hset h 91 (.inl (0, 84, .inl A))) 92 (.inl (0, 84, .inl B))
theorem R2_o (h : MH) (A Z : Nat → Int32) {q : Nat} {y : MC} (hq : h q = some y) (h1 : q ≠ 91) (h2 : q ≠ 92) : PR2 h A Z q = some y := o_ne (o_ne hq h1) h2
theorem R2_91 (h : MH) (A Z : Nat → Int32) : PR2 h A Z 91 = some (.inl (0, 84, .inl A)) := o_ne (hset_self _ _ _) (by decide)
theorem R2_92 (h : MH) (A Z : Nat → Int32) : PR2 h A Z 92 = some (.inl (0, 84, .inl Z)) := hset_self _ _ _
theorem R2_s91 (h : MH) (A Z B : Nat → Int32) : hset (PR2 h A Z) 91 (.inl (0, 84, .inl B)) = PR2 h B Z := by
  unfold PR2
  rw [hset_comm _ _ _ (show 92 ≠ 91 by decide), hset_hset]
theorem R2_s92 (h : MH) (A Z B : Nat → Int32) : hset (PR2 h A Z) 92 (.inl (0, 84, .inl B)) = PR2 h A B := by
  unfold PR2
  rw [hset_hset]
def Rp (A B : Nat → Int32) (P : Nat → Option (Nat × Nat)) : Prop := (∀ j, j < 84 → A j = sI (P j)) ∧ ∀ j, j < 84 → ∀ q, P j = some q → B j = nI q.2
set_option maxRecDepth 20000 in
set_option maxHeartbeats 4000000 in
theorem m_way_w (l : Launch) (d : Nat) (h : MH) (n : Nat) (K : KK) (b : Bool) (th po ba en tt : Int32) (hm0 : h 78 = some (.inr (6, moF b th po ba en tt))) (ha : h 79 = some (kc K)) (m : Nat) (hm : K 90 = nI m) (hm10 : m ≤ 10) (s w0 : Int32) (c0 c1 : Nat) (h0 : c0 < 84) (P0 : Nat → Option (Nat × Nat)) (Bd : Nat) (hBd : Bd ≤ 30000) (c : Nat) (hc : c < 84) {Q : Option Value → MH → Nat → Prop} (kk : ∀ (P : Nat → Option (Nat × Nat)) (bt : Bool) (A B : Nat → Int32), PI K m s c0 P0 Bd (c + 1) 0 P bt → Rp A B P → V l mX6_wayIn (d + 4) 245 [some (.ref 78), some (.int (nI c0)), some (.int (nI c1)), some (.int s), some (.int w0), some (.int (bI bt)), some (.int (nI c)), none, none, none, none] [] (PR2 h A B) n 0 0 Q) : ∀ (r w : Nat) (P : Nat → Option (Nat × Nat)) (bt : Bool) (A B : Nat → Int32), PI K m s c0 P0 Bd c w P bt → (∃ q, P c = some q) → Rp A B P → w + r = 4 → V l mX6_wayIn (d + 4) 97 [some (.ref 78), some (.int (nI c0)), some (.int (nI c1)), some (.int s), some (.int w0), some (.int (bI bt)), some (.int (nI c)), some (.int (nI w)), none, none, none] [] (PR2 h A B) n 0 0 Q := by
  intro r
  induction r with
  | zero =>
    intro w P bt A B hPI hex hR hw
    obtain ⟨q, hq⟩ := hex
    refine V.iload dX6_wayIn_97 rfl ?_
    refine V.iconst (v := nI 4) dX6_wayIn_99 (by decide) ?_
    refine V.icmp_geN (tgt := 245) dX6_wayIn_100 (by decide) (by omega) (by omega) (fun _ => ?_) (fun q => absurd q (by omega))
    have hw4 : w = 4 := by omega
    subst hw4
    exact V.drop 7 (kk P bt A B (PI_nx hPI hc (by omega) (Or.inl rfl)) hR)
  | succ r ih =>
    intro w P bt A B hPI hex hR hw
    obtain ⟨q, hq⟩ := hex
    refine V.iload dX6_wayIn_97 rfl ?_
    refine V.iconst (v := nI 4) dX6_wayIn_99 (by decide) ?_
    refine V.icmp_geN (tgt := 245) dX6_wayIn_100 (by decide) (by omega) (by omega) (fun q => absurd q (by omega)) (fun _ => ?_)
    have hAc : A c = nI q.1 := by rw [hR.1 c hc, hq]; rfl
    have hBc : B c = nI q.2 := hR.2 c hc q hq
    have hq2 := (hPI.1 c hc q hq)
    have hq1 := Wk_s hm10 hq2.1
    refine V.aload_n dX6_wayIn_103 rfl ?_
    refine V.getf dX6_wayIn_104 fl_X6_46 (R2_o _ _ _ hm0 (by decide) (by decide)) rfl ?_
    refine V.iload dX6_wayIn_107 rfl ?_
    refine V.ialdN dX6_wayIn_109 (R2_91 _ _ _) hc (by decide) ?_
    rw [hAc]
    refine V.if_lt (tgt := 245) dX6_wayIn_110 (by decide) (fun y => absurd y (nI_pos (by omega))) (fun _ => ?_)
    refine V.iload dX6_wayIn_113 rfl ?_
    refine V.iload dX6_wayIn_115 rfl ?_
    refine V.callSv [_, _] dX6_wayIn_117 lk_X6_296 rfl (Nat.le_of_ble_eq_true rfl) (Nat.le_of_ble_eq_true rfl) (s6_beside _ _ _ _ _ _ hc (by omega)) ?_
    refine V.ist8 dX6_wayIn_120 (by decide) rfl ?_
    refine V.iload dX6_wayIn_122 rfl ?_
    cases hb : mbs c w with
    | none =>
      refine V.if_lt (tgt := 239) dX6_wayIn_124 (by decide) (fun _ => ?_) (fun y => absurd (by decide) y)
      refine V.inN7 dX6_wayIn_239 (by decide) rfl ?_
      refine V.goto (tgt := 97) dX6_wayIn_242 (by decide) ?_
      exact V.drop 8 (ih (w + 1) P bt A B (PI_no hPI hc q hq (fun j e1 e2 => by rw [hb] at e1; cases e1)) ⟨q, hq⟩ hR (by omega))
    | some j0 =>
      have hj0 : j0 < 84 := adj_lt hc ((adj_MC c j0).symm.trans ((eB_iff _ _).mpr ⟨w, by omega, decide_eq_true hb⟩))
      refine V.if_lt (tgt := 239) dX6_wayIn_124 (by decide) (fun y => absurd y (nI_pos (by omega))) (fun _ => ?_)
      refine V.aload_n dX6_wayIn_127 rfl ?_
      refine V.getf dX6_wayIn_128 fl_X6_9 (R2_o _ _ _ hm0 (by decide) (by decide)) rfl ?_
      refine V.iload dX6_wayIn_131 rfl ?_
      refine V.ialdN dX6_wayIn_133 (R2_o _ _ _ ha (by decide) (by decide)) (by omega) (by decide) ?_
      refine V.iconst (v := nI 3) dX6_wayIn_134 (by decide) ?_
      refine V.icmp_ne (tgt := 141) dX6_wayIn_135 (by decide) (fun c135 => ?_) (fun c135 => ?_)
      · have hop : opC K j0 = true := by rw [opC, decide_eq_false c135]; rfl
        have hsn : sn K m s j0 ≤ m := cN_le _ _
        refine V.aload_n dX6_wayIn_141 rfl ?_
        refine V.getf dX6_wayIn_142 fl_X6_46 (R2_o _ _ _ hm0 (by decide) (by decide)) rfl ?_
        refine V.iload dX6_wayIn_145 rfl ?_
        refine V.ialdN dX6_wayIn_147 (R2_91 _ _ _) hc (by decide) ?_
        rw [hAc]
        refine V.aload_n dX6_wayIn_148 rfl ?_
        refine V.iload_n dX6_wayIn_149 rfl ?_
        refine V.iload dX6_wayIn_150 rfl ?_
        refine V.callVv [_, _] dX6_wayIn_152 lk_X6_299 rfl (Nat.le_of_ble_eq_true rfl) (Nat.le_of_ble_eq_true rfl) (R2_o _ _ _ hm0 (by decide) (by decide)) rfl (s6_seenBy _ _ _ _ K b th po ba en tt (R2_o _ _ _ hm0 (by decide) (by decide)) (R2_o _ _ _ ha (by decide) (by decide)) m hm hm10 s j0 hj0) ?_
        refine V.iaddN dX6_wayIn_155 ?_
        refine V.ist9 dX6_wayIn_156 (by decide) rfl ?_
        refine V.aload_n dX6_wayIn_158 rfl ?_
        refine V.getf dX6_wayIn_159 fl_X6_49 (R2_o _ _ _ hm0 (by decide) (by decide)) rfl ?_
        refine V.iload dX6_wayIn_162 rfl ?_
        refine V.ialdN dX6_wayIn_164 (R2_92 _ _ _) hc (by decide) ?_
        rw [hBc]
        refine V.iconst (v := nI 1) dX6_wayIn_165 (by decide) ?_
        refine V.iaddN dX6_wayIn_166 ?_
        refine V.ist10 dX6_wayIn_167 (by decide) rfl ?_
        refine V.aload_n dX6_wayIn_169 rfl ?_
        refine V.getf dX6_wayIn_170 fl_X6_46 (R2_o _ _ _ hm0 (by decide) (by decide)) rfl ?_
        refine V.iload dX6_wayIn_173 rfl ?_
        refine V.ialdN dX6_wayIn_175 (R2_91 _ _ _) hj0 (by decide) ?_
        rw [hR.1 j0 hj0]
        cases hp : P j0 with
        | none =>
          refine V.if_lt (tgt := 218) dX6_wayIn_176 (by decide) (fun _ => ?_) (fun y => absurd (by decide) y)
          refine V.aload_n dX6_wayIn_218 rfl ?_
          refine V.getf dX6_wayIn_219 fl_X6_46 (R2_o _ _ _ hm0 (by decide) (by decide)) rfl ?_
          refine V.iload dX6_wayIn_222 rfl ?_
          refine V.iload dX6_wayIn_224 rfl ?_
          refine V.iastN dX6_wayIn_226 (R2_91 _ _ _) hj0 (by decide) ?_
          rw [R2_s91]
          refine V.aload_n dX6_wayIn_227 rfl ?_
          refine V.getf dX6_wayIn_228 fl_X6_49 (R2_o _ _ _ hm0 (by decide) (by decide)) rfl ?_
          refine V.iload dX6_wayIn_231 rfl ?_
          refine V.iload dX6_wayIn_233 rfl ?_
          refine V.iastN dX6_wayIn_235 (R2_92 _ _ _) hj0 (by decide) ?_
          rw [R2_s92]
          refine V.iconst (v := nI 1) dX6_wayIn_236 (by decide) ?_
          refine V.ist5 dX6_wayIn_237 (by decide) rfl ?_
          refine V.inN7 dX6_wayIn_239 (by decide) rfl ?_
          refine V.goto (tgt := 97) dX6_wayIn_242 (by decide) ?_
          refine V.drop 8 (V.drop 9 (V.drop 10 (ih (w + 1) (upP P j0 (q.1 + sn K m s j0, q.2 + 1)) true _ _ (PI_up hPI hc q hq j0 hj0 hb (by omega) hop (fun ⟨q3, e3, _⟩ => by rw [hp] at e3; cases e3)) ?_ ⟨fun j hj => ?_, fun j hj q2 e => ?_⟩ (by omega))))
          · by_cases y : c = j0
            · exact ⟨_, by rw [y]; exact upP_s _ _ _⟩
            · exact ⟨q, (upP_n _ _ y).trans hq⟩
          · by_cases y : j = j0
            · subst y; rw [pk_us, upP_s]; rfl
            · rw [pk_un y, upP_n _ _ y]; exact hR.1 j hj
          · by_cases y : j = j0
            · subst y
              rw [upP_s] at e
              rw [pk_us, ← Option.some.inj e]
            · rw [upP_n _ _ y] at e
              rw [pk_un y]; exact hR.2 j hj q2 e
        | some qj =>
          have hAj : A j0 = nI qj.1 := by rw [hR.1 j0 hj0, hp]; rfl
          have hBj : B j0 = nI qj.2 := hR.2 j0 hj0 qj hp
          have hj2 := (hPI.1 j0 hj0 qj hp)
          have hj1 := Wk_s hm10 hj2.1
          refine V.if_lt (tgt := 218) dX6_wayIn_176 (by decide) (fun y => absurd (show nI qj.1 < 0 from y) (nI_pos (by omega))) (fun _ => ?_)
          refine V.iload dX6_wayIn_179 rfl ?_
          refine V.aload_n dX6_wayIn_181 rfl ?_
          refine V.getf dX6_wayIn_182 fl_X6_46 (R2_o _ _ _ hm0 (by decide) (by decide)) rfl ?_
          refine V.iload dX6_wayIn_185 rfl ?_
          refine V.ialdN dX6_wayIn_187 (R2_91 _ _ _) hj0 (by decide) ?_
          rw [hAj]
          refine V.icmp_gtN (tgt := 239) dX6_wayIn_188 (by decide) (by omega) (by omega) (fun c188 => ?_) (fun c188 => ?_)
          · refine V.inN7 dX6_wayIn_239 (by decide) rfl ?_
            refine V.goto (tgt := 97) dX6_wayIn_242 (by decide) ?_
            exact V.drop 8 (V.drop 9 (V.drop 10 (ih (w + 1) P bt A B (PI_no hPI hc q hq (fun j e1 e2 => by rw [hb] at e1; rw [← Option.some.inj e1, hp]; exact ⟨qj, rfl, by omega⟩)) ⟨q, hq⟩ hR (by omega))))
          · refine V.iload dX6_wayIn_191 rfl ?_
            refine V.aload_n dX6_wayIn_193 rfl ?_
            refine V.getf dX6_wayIn_194 fl_X6_46 (R2_o _ _ _ hm0 (by decide) (by decide)) rfl ?_
            refine V.iload dX6_wayIn_197 rfl ?_
            refine V.ialdN dX6_wayIn_199 (R2_91 _ _ _) hj0 (by decide) ?_
            rw [hAj]
            refine V.icmp_neN (tgt := 218) dX6_wayIn_200 (by decide) (by omega) (by omega) (fun c200 => ?_) (fun c200 => ?_)
            · refine V.aload_n dX6_wayIn_218 rfl ?_
              refine V.getf dX6_wayIn_219 fl_X6_46 (R2_o _ _ _ hm0 (by decide) (by decide)) rfl ?_
              refine V.iload dX6_wayIn_222 rfl ?_
              refine V.iload dX6_wayIn_224 rfl ?_
              refine V.iastN dX6_wayIn_226 (R2_91 _ _ _) hj0 (by decide) ?_
              rw [R2_s91]
              refine V.aload_n dX6_wayIn_227 rfl ?_
              refine V.getf dX6_wayIn_228 fl_X6_49 (R2_o _ _ _ hm0 (by decide) (by decide)) rfl ?_
              refine V.iload dX6_wayIn_231 rfl ?_
              refine V.iload dX6_wayIn_233 rfl ?_
              refine V.iastN dX6_wayIn_235 (R2_92 _ _ _) hj0 (by decide) ?_
              rw [R2_s92]
              refine V.iconst (v := nI 1) dX6_wayIn_236 (by decide) ?_
              refine V.ist5 dX6_wayIn_237 (by decide) rfl ?_
              refine V.inN7 dX6_wayIn_239 (by decide) rfl ?_
              refine V.goto (tgt := 97) dX6_wayIn_242 (by decide) ?_
              refine V.drop 8 (V.drop 9 (V.drop 10 (ih (w + 1) (upP P j0 (q.1 + sn K m s j0, q.2 + 1)) true _ _ (PI_up hPI hc q hq j0 hj0 hb (by omega) hop (fun ⟨q3, e3, e4⟩ => by rw [hp] at e3; rw [← Option.some.inj e3] at e4; omega)) ?_ ⟨fun j hj => ?_, fun j hj q2 e => ?_⟩ (by omega))))
              · by_cases y : c = j0
                · exact ⟨_, by rw [y]; exact upP_s _ _ _⟩
                · exact ⟨q, (upP_n _ _ y).trans hq⟩
              · by_cases y : j = j0
                · subst y; rw [pk_us, upP_s]; rfl
                · rw [pk_un y, upP_n _ _ y]; exact hR.1 j hj
              · by_cases y : j = j0
                · subst y
                  rw [upP_s] at e
                  rw [pk_us, ← Option.some.inj e]
                · rw [upP_n _ _ y] at e
                  rw [pk_un y]; exact hR.2 j hj q2 e
            · refine V.iload dX6_wayIn_203 rfl ?_
              refine V.aload_n dX6_wayIn_205 rfl ?_
              refine V.getf dX6_wayIn_206 fl_X6_49 (R2_o _ _ _ hm0 (by decide) (by decide)) rfl ?_
              refine V.iload dX6_wayIn_209 rfl ?_
              refine V.ialdN dX6_wayIn_211 (R2_92 _ _ _) hj0 (by decide) ?_
              rw [hBj]
              refine V.icmp_ltN (tgt := 218) dX6_wayIn_212 (by decide) (by omega) (by omega) (fun c212 => ?_) (fun c212 => ?_)
              · refine V.aload_n dX6_wayIn_218 rfl ?_
                refine V.getf dX6_wayIn_219 fl_X6_46 (R2_o _ _ _ hm0 (by decide) (by decide)) rfl ?_
                refine V.iload dX6_wayIn_222 rfl ?_
                refine V.iload dX6_wayIn_224 rfl ?_
                refine V.iastN dX6_wayIn_226 (R2_91 _ _ _) hj0 (by decide) ?_
                rw [R2_s91]
                refine V.aload_n dX6_wayIn_227 rfl ?_
                refine V.getf dX6_wayIn_228 fl_X6_49 (R2_o _ _ _ hm0 (by decide) (by decide)) rfl ?_
                refine V.iload dX6_wayIn_231 rfl ?_
                refine V.iload dX6_wayIn_233 rfl ?_
                refine V.iastN dX6_wayIn_235 (R2_92 _ _ _) hj0 (by decide) ?_
                rw [R2_s92]
                refine V.iconst (v := nI 1) dX6_wayIn_236 (by decide) ?_
                refine V.ist5 dX6_wayIn_237 (by decide) rfl ?_
                refine V.inN7 dX6_wayIn_239 (by decide) rfl ?_
                refine V.goto (tgt := 97) dX6_wayIn_242 (by decide) ?_
                refine V.drop 8 (V.drop 9 (V.drop 10 (ih (w + 1) (upP P j0 (q.1 + sn K m s j0, q.2 + 1)) true _ _ (PI_up hPI hc q hq j0 hj0 hb (by omega) hop (fun ⟨q3, e3, e4⟩ => by rw [hp] at e3; rw [← Option.some.inj e3] at e4; omega)) ?_ ⟨fun j hj => ?_, fun j hj q2 e => ?_⟩ (by omega))))
                · by_cases y : c = j0
                  · exact ⟨_, by rw [y]; exact upP_s _ _ _⟩
                  · exact ⟨q, (upP_n _ _ y).trans hq⟩
                · by_cases y : j = j0
                  · subst y; rw [pk_us, upP_s]; rfl
                  · rw [pk_un y, upP_n _ _ y]; exact hR.1 j hj
                · by_cases y : j = j0
                  · subst y
                    rw [upP_s] at e
                    rw [pk_us, ← Option.some.inj e]
                  · rw [upP_n _ _ y] at e
                    rw [pk_un y]; exact hR.2 j hj q2 e
              · refine V.goto (tgt := 239) dX6_wayIn_215 (by decide) ?_
                refine V.inN7 dX6_wayIn_239 (by decide) rfl ?_
                refine V.goto (tgt := 97) dX6_wayIn_242 (by decide) ?_
                exact V.drop 8 (V.drop 9 (V.drop 10 (ih (w + 1) P bt A B (PI_no hPI hc q hq (fun j e1 e2 => by rw [hb] at e1; rw [← Option.some.inj e1, hp]; exact ⟨qj, rfl, by omega⟩)) ⟨q, hq⟩ hR (by omega))))
      · refine V.goto (tgt := 239) dX6_wayIn_138 (by decide) ?_
        refine V.inN7 dX6_wayIn_239 (by decide) rfl ?_
        refine V.goto (tgt := 97) dX6_wayIn_242 (by decide) ?_
        exact V.drop 8 (ih (w + 1) P bt A B (PI_no hPI hc q hq (fun j e1 e2 => by rw [hb] at e1; rw [← Option.some.inj e1, opC, decide_eq_true c135] at e2; cases e2)) ⟨q, hq⟩ hR (by omega))
set_option maxRecDepth 20000 in
set_option maxHeartbeats 4000000 in
theorem m_way_c (l : Launch) (d : Nat) (h : MH) (n : Nat) (K : KK) (b : Bool) (th po ba en tt : Int32) (hm0 : h 78 = some (.inr (6, moF b th po ba en tt))) (ha : h 79 = some (kc K)) (m : Nat) (hm : K 90 = nI m) (hm10 : m ≤ 10) (s w0 : Int32) (c0 c1 : Nat) (h0 : c0 < 84) (P0 : Nat → Option (Nat × Nat)) (Bd : Nat) (hBd : Bd ≤ 30000) {Q : Option Value → MH → Nat → Prop} (kk : ∀ (P : Nat → Option (Nat × Nat)) (bt : Bool) (A B : Nat → Int32), PI K m s c0 P0 Bd 84 0 P bt → Rp A B P → V l mX6_wayIn (d + 4) 251 [some (.ref 78), some (.int (nI c0)), some (.int (nI c1)), some (.int s), some (.int w0), some (.int (bI bt)), none, none, none, none, none] [] (PR2 h A B) n 0 0 Q) : ∀ (r c : Nat) (P : Nat → Option (Nat × Nat)) (bt : Bool) (A B : Nat → Int32), PI K m s c0 P0 Bd c 0 P bt → Rp A B P → c + r = 84 → V l mX6_wayIn (d + 4) 87 [some (.ref 78), some (.int (nI c0)), some (.int (nI c1)), some (.int s), some (.int w0), some (.int (bI bt)), some (.int (nI c)), none, none, none, none] [] (PR2 h A B) n 0 0 Q := by
  intro r
  induction r with
  | zero =>
    intro c P bt A B hPI hR hc
    refine V.iload dX6_wayIn_87 rfl ?_
    refine V.bipush (v := nI 84) dX6_wayIn_89 (by decide) ?_
    refine V.icmp_geN (tgt := 251) dX6_wayIn_91 (by decide) (by omega) (by omega) (fun _ => ?_) (fun q => absurd q (by omega))
    have hc84 : c = 84 := by omega
    subst hc84
    exact V.drop 6 (kk P bt A B hPI hR)
  | succ r ih =>
    intro c P bt A B hPI hR hc
    refine V.iload dX6_wayIn_87 rfl ?_
    refine V.bipush (v := nI 84) dX6_wayIn_89 (by decide) ?_
    refine V.icmp_geN (tgt := 251) dX6_wayIn_91 (by decide) (by omega) (by omega) (fun q => absurd q (by omega)) (fun _ => ?_)
    refine V.iconst (v := nI 0) dX6_wayIn_94 (by decide) ?_
    refine V.ist7 dX6_wayIn_95 (by decide) rfl ?_
    cases hp : P c with
    | some q =>
      refine m_way_w l d h n K b th po ba en tt hm0 ha m hm hm10 s w0 c0 c1 h0 P0 Bd hBd c (by omega) (fun P1 bt1 A1 B1 hPI1 hR1 => ?_) 4 0 P bt A B hPI ⟨q, hp⟩ hR (by omega)
      refine V.inN6 dX6_wayIn_245 (by decide) rfl ?_
      refine V.goto (tgt := 87) dX6_wayIn_248 (by decide) ?_
      exact ih (c + 1) P1 bt1 A1 B1 hPI1 hR1 (by omega)
    | none =>
      refine V.iload dX6_wayIn_97 rfl ?_
      refine V.iconst (v := nI 4) dX6_wayIn_99 (by decide) ?_
      refine V.icmp_ge (tgt := 245) dX6_wayIn_100 (by decide) (fun q => absurd q (by decide)) (fun _ => ?_)
      refine V.aload_n dX6_wayIn_103 rfl ?_
      refine V.getf dX6_wayIn_104 fl_X6_46 (R2_o _ _ _ hm0 (by decide) (by decide)) rfl ?_
      refine V.iload dX6_wayIn_107 rfl ?_
      refine V.ialdN dX6_wayIn_109 (R2_91 _ _ _) (show c < 84 by omega) (by decide) ?_
      rw [show A c = -4 by rw [hR.1 c (by omega), hp]; rfl]
      refine V.if_lt (tgt := 245) dX6_wayIn_110 (by decide) (fun _ => ?_) (fun y => absurd (by decide) y)
      refine V.inN6 dX6_wayIn_245 (by decide) rfl ?_
      refine V.goto (tgt := 87) dX6_wayIn_248 (by decide) ?_
      exact V.drop 7 (ih (c + 1) P bt A B (PI_nx hPI (by omega) (by omega) (Or.inr hp)) hR (by omega))
set_option maxRecDepth 20000 in
set_option maxHeartbeats 4000000 in
theorem m_way_p (l : Launch) (d : Nat) (h : MH) (n : Nat) (K : KK) (b : Bool) (th po ba en tt : Int32) (hm0 : h 78 = some (.inr (6, moF b th po ba en tt))) (ha : h 79 = some (kc K)) (m : Nat) (hm : K 90 = nI m) (hm10 : m ≤ 10) (s w0 : Int32) (c0 c1 : Nat) (h0 : c0 < 84) {Q : Option Value → MH → Nat → Prop} (kk : ∀ (P : Nat → Option (Nat × Nat)) (A B : Nat → Int32) (Bd : Nat), J1 K m s c0 P Bd → (∀ t j v, Wk K m s c0 t j v → LE (P j) v t) → Rp A B P → V l mX6_wayIn (d + 4) 254 [some (.ref 78), some (.int (nI c0)), some (.int (nI c1)), some (.int s), some (.int w0), none, none, none, none, none, none] [] (PR2 h A B) n 0 0 Q) : ∀ (r k : Nat) (P : Nat → Option (Nat × Nat)) (A B : Nat → Int32), J1 K m s c0 P (336 * k) → LE (P c0) 0 0 → (∀ t, t ≤ k → ∀ j v, Wk K m s c0 t j v → LE (P j) v t) → Rp A B P → k + r = 84 → V l mX6_wayIn (d + 4) 76 [some (.ref 78), some (.int (nI c0)), some (.int (nI c1)), some (.int s), some (.int w0), some (.int (nI 1)), none, none, none, none, none] [] (PR2 h A B) n 0 0 Q := by
  intro r
  induction r with
  | zero =>
    intro k P A B hJ hz hk hR hr
    refine V.iload dX6_wayIn_76 rfl ?_
    refine V.if_eq (tgt := 254) dX6_wayIn_78 (by decide) (fun q => absurd q (by decide)) (fun _ => ?_)
    refine V.iconst (v := nI 0) dX6_wayIn_81 (by decide) ?_
    refine V.ist5 dX6_wayIn_82 (by decide) rfl ?_
    refine V.iconst (v := nI 0) dX6_wayIn_84 (by decide) ?_
    refine V.ist6 dX6_wayIn_85 (by decide) rfl ?_
    refine m_way_c l d h n K b th po ba en tt hm0 ha m hm hm10 s w0 c0 c1 h0 P (336 * k) (by omega) (fun P1 bt1 A1 B1 hPI1 hR1 => ?_) 84 0 P false A B (PI_0 hJ) hR (by omega)
    refine V.goto (tgt := 76) dX6_wayIn_251 (by decide) ?_
    cases bt1 with
    | true =>
      obtain ⟨t, j, v, hW, hj, hn⟩ := hPI1.2.2.2.1 rfl
      exact absurd (all_k h0 (by omega) hk t j v hW) hn
    | false =>
      have hbest := PI_best h0 hPI1 hz
      refine V.iload dX6_wayIn_76 rfl ?_
      refine V.if_eq (tgt := 254) dX6_wayIn_78 (by decide) (fun _ => ?_) (fun q => absurd rfl q)
      exact V.drop 5 (kk P1 A1 B1 _ hPI1.1 hbest hR1)
  | succ r ih =>
    intro k P A B hJ hz hk hR hr
    refine V.iload dX6_wayIn_76 rfl ?_
    refine V.if_eq (tgt := 254) dX6_wayIn_78 (by decide) (fun q => absurd q (by decide)) (fun _ => ?_)
    refine V.iconst (v := nI 0) dX6_wayIn_81 (by decide) ?_
    refine V.ist5 dX6_wayIn_82 (by decide) rfl ?_
    refine V.iconst (v := nI 0) dX6_wayIn_84 (by decide) ?_
    refine V.ist6 dX6_wayIn_85 (by decide) rfl ?_
    refine m_way_c l d h n K b th po ba en tt hm0 ha m hm hm10 s w0 c0 c1 h0 P (336 * k) (by omega) (fun P1 bt1 A1 B1 hPI1 hR1 => ?_) 84 0 P false A B (PI_0 hJ) hR (by omega)
    refine V.goto (tgt := 76) dX6_wayIn_251 (by decide) ?_
    cases bt1 with
    | true => exact ih (k + 1) P1 A1 B1 (fun j hj q e => ⟨(hPI1.1 j hj q e).1, by have := (hPI1.1 j hj q e).2; omega⟩) (hPI1.2.1 c0 h0 0 0 hz) (PI_k h0 hPI1 hk) hR1 (by omega)
    | false =>
      have hbest := PI_best h0 hPI1 hz
      refine V.iload dX6_wayIn_76 rfl ?_
      refine V.if_eq (tgt := 254) dX6_wayIn_78 (by decide) (fun _ => ?_) (fun q => absurd rfl q)
      exact V.drop 5 (kk P1 A1 B1 _ hPI1.1 hbest hR1)
set_option maxRecDepth 20000 in
set_option maxHeartbeats 4000000 in
theorem m_way_f (l : Launch) (d : Nat) (h : MH) (n : Nat) (b : Bool) (th po ba en tt : Int32) (hm0 : h 78 = some (.inr (6, moF b th po ba en tt))) (s w0 : Int32) (c0 c1 : Nat) (B : Nat → Int32) {Q : Option Value → MH → Nat → Prop} (kk : ∀ A : Nat → Int32, (∀ j, j < 84 → A j = -4) → V l mX6_wayIn d 59 [some (.ref 78), some (.int (nI c0)), some (.int (nI c1)), some (.int s), some (.int w0), none, none, none, none, none, none] [] (PR2 h A B) n 0 0 Q) : ∀ (r i : Nat) (A : Nat → Int32), (∀ j, j < i → A j = -4) → i + r = 84 → V l mX6_wayIn d 37 [some (.ref 78), some (.int (nI c0)), some (.int (nI c1)), some (.int s), some (.int w0), some (.int (nI i)), none, none, none, none, none] [] (PR2 h A B) n 0 0 Q := by
  intro r
  induction r with
  | zero =>
    intro i A hA hi
    refine V.iload dX6_wayIn_37 rfl ?_
    refine V.bipush (v := nI 84) dX6_wayIn_39 (by decide) ?_
    refine V.icmp_geN (tgt := 59) dX6_wayIn_41 (by decide) (by omega) (by omega) (fun _ => ?_) (fun q => absurd q (by omega))
    exact V.drop 5 (kk A (fun j hj => hA j (by omega)))
  | succ r ih =>
    intro i A hA hi
    refine V.iload dX6_wayIn_37 rfl ?_
    refine V.bipush (v := nI 84) dX6_wayIn_39 (by decide) ?_
    refine V.icmp_geN (tgt := 59) dX6_wayIn_41 (by decide) (by omega) (by omega) (fun q => absurd q (by omega)) (fun _ => ?_)
    refine V.aload_n dX6_wayIn_44 rfl ?_
    refine V.getf dX6_wayIn_45 fl_X6_46 (R2_o _ _ _ hm0 (by decide) (by decide)) rfl ?_
    refine V.iload dX6_wayIn_48 rfl ?_
    refine V.bipush (v := -4) dX6_wayIn_50 (by decide) ?_
    refine V.iastN dX6_wayIn_52 (R2_91 _ _ _) (by omega) (by decide) ?_
    rw [R2_s91]
    refine V.inN5 dX6_wayIn_53 (by decide) rfl ?_
    refine V.goto (tgt := 37) dX6_wayIn_56 (by decide) ?_
    refine ih (i + 1) _ (fun j hj => ?_) (by omega)
    by_cases y : j = i
    · subst y; rw [pk_us]
    · rw [pk_un y]; exact hA j (by omega)
set_option maxRecDepth 20000 in
set_option maxHeartbeats 4000000 in
theorem m_wayIn (l : Launch) (d : Nat) (h : MH) (n : Nat) (K : KK) (b : Bool) (KI : KK) (S : SS) (m : Nat) (hc : ModAt h K b KI S) (hT : TI K m) (x y s w0 : Int32) : Sp l mX6_wayIn (d + 4) [.ref 78, .int x, .int y, .int s, .int w0] h n 0 0 (Qm (wayV K m x y s w0) K b KI S h n) := by
  have hD := hT.1
  have hm := hD.1.1
  have hm10 := hD.1.2.1
  obtain ⟨⟨th, po, ba, en, tt, hm0⟩, ha, hb, ⟨Km, hmi⟩, ⟨Kr, hre⟩, h83, h84, h85, h86, h87, h88, ⟨X89, h89⟩, ⟨X90, h90⟩, ⟨X91, h91⟩, ⟨X92, h92⟩⟩ := id hc
  show V _ _ _ _ [some (.ref 78), some (.int x), some (.int y), some (.int s), some (.int w0), none, none, none, none, none, none] _ _ _ _ _ _
  refine V.iload_n dX6_wayIn_0 rfl ?_
  refine V.callSv [_] dX6_wayIn_1 lk_X6_169 rfl (Nat.le_of_ble_eq_true rfl) (Nat.le_of_ble_eq_true rfl) (s6_isCell _ _ _ _ _) ?_
  refine V.if_eqB (tgt := 32) dX6_wayIn_4 (by decide) (fun c4 => ?_) (fun c4 => ?_)
  · refine V.iconst (v := -1) dX6_wayIn_32 (by decide) ?_
    exact V.iret (by exact dX6_wayIn_33) rfl rfl ⟨by simp only [wayV, c4, not_true_eq_false, not_false_eq_true, if_true, if_false, decide_true, decide_false, Bool.and_true, Bool.and_false, Bool.true_and, Bool.false_and, Bool.or_true, Bool.or_false, Bool.true_or, Bool.false_or, Bool.not_true, Bool.not_false, and_true, and_false, true_and, false_and, or_true, or_false, true_or, false_or, bIt, bIf, Bool.false_eq_true, reduceCtorEq], rfl, hc, fun _ _ => rfl⟩
  · refine V.iload_n dX6_wayIn_7 rfl ?_
    refine V.callSv [_] dX6_wayIn_8 lk_X6_169 rfl (Nat.le_of_ble_eq_true rfl) (Nat.le_of_ble_eq_true rfl) (s6_isCell _ _ _ _ _) ?_
    refine V.if_eqB (tgt := 32) dX6_wayIn_11 (by decide) (fun c11 => ?_) (fun c11 => ?_)
    · refine V.iconst (v := -1) dX6_wayIn_32 (by decide) ?_
      exact V.iret (by exact dX6_wayIn_33) rfl rfl ⟨by simp only [wayV, c4, c11, not_true_eq_false, not_false_eq_true, if_true, if_false, decide_true, decide_false, Bool.and_true, Bool.and_false, Bool.true_and, Bool.false_and, Bool.or_true, Bool.or_false, Bool.true_or, Bool.false_or, Bool.not_true, Bool.not_false, and_true, and_false, true_and, false_and, or_true, or_false, true_or, false_or, bIt, bIf, Bool.false_eq_true, reduceCtorEq], rfl, hc, fun _ _ => rfl⟩
    · refine V.iload_n dX6_wayIn_14 rfl ?_
      refine V.callSv [_] dX6_wayIn_15 lk_X6_223 rfl (Nat.le_of_ble_eq_true rfl) (Nat.le_of_ble_eq_true rfl) (s6_isSide _ _ _ _ _) ?_
      refine V.if_eqB (tgt := 32) dX6_wayIn_18 (by decide) (fun c18 => ?_) (fun c18 => ?_)
      · refine V.iconst (v := -1) dX6_wayIn_32 (by decide) ?_
        exact V.iret (by exact dX6_wayIn_33) rfl rfl ⟨by simp only [wayV, c4, c11, c18, not_true_eq_false, not_false_eq_true, if_true, if_false, decide_true, decide_false, Bool.and_true, Bool.and_false, Bool.true_and, Bool.false_and, Bool.or_true, Bool.or_false, Bool.true_or, Bool.false_or, Bool.not_true, Bool.not_false, and_true, and_false, true_and, false_and, or_true, or_false, true_or, false_or, bIt, bIf, Bool.false_eq_true, reduceCtorEq], rfl, hc, fun _ _ => rfl⟩
      · refine V.iload dX6_wayIn_21 rfl ?_
        refine V.i2l dX6_wayIn_23 ?_
        refine V.lconst (v := 0) dX6_wayIn_24 (by decide) ?_
        refine V.lconst (v := 1) dX6_wayIn_25 (by decide) ?_
        refine V.callSv [_, _, _] dX6_wayIn_26 lk_X6_62 rfl (Nat.le_of_ble_eq_true rfl) (Nat.le_of_ble_eq_true rfl) (s6_isInC _ _ _ (nI 0) (nI 1) (by decide) (by decide) _ _) ?_
        refine V.if_neB (tgt := 34) dX6_wayIn_29 (by decide) (fun c29 => ?_) (fun c29 => ?_)
        · obtain ⟨c0, hc0, rfl⟩ := wi_ex (by decide) c4
          obtain ⟨c1, hc1, rfl⟩ := wi_ex (by decide) c11
          refine V.iconst (v := nI 0) dX6_wayIn_34 (by decide) ?_
          refine V.ist5 dX6_wayIn_35 (by decide) rfl ?_
          have h91b : h 91 = some (.inl (0, 84, .inl X91)) := h91
          have h92b : h 92 = some (.inl (0, 84, .inl X92)) := h92
          have hv : wayV K m (nI c0) (nI c1) s w0 = wayW K m s c0 c1 w0 := by
            rw [wayV, c4, c11, c18, c29, if_pos (show (true && (true && (true && true))) = true from rfl), clampI (show c0 < 2147483648 by omega), clampI (show c1 < 2147483648 by omega)]
          refine V.hp (show h = PR2 h X91 X92 by unfold PR2; rw [hset_id h91b, hset_id h92b]) (m_way_f l (d + 4) h n b th po ba en tt hm0 s w0 c0 c1 X92 (fun A hA => ?_) 84 0 X91 (fun j hj => absurd hj (by omega)) (by omega))
          refine V.aload_n dX6_wayIn_59 rfl ?_
          refine V.getf dX6_wayIn_60 fl_X6_46 (R2_o _ _ _ hm0 (by decide) (by decide)) rfl ?_
          refine V.iload_n dX6_wayIn_63 rfl ?_
          refine V.iconst (v := nI 0) dX6_wayIn_64 (by decide) ?_
          refine V.iastN dX6_wayIn_65 (R2_91 _ _ _) (show c0 < 84 by omega) (by decide) ?_
          rw [R2_s91]
          refine V.aload_n dX6_wayIn_66 rfl ?_
          refine V.getf dX6_wayIn_67 fl_X6_49 (R2_o _ _ _ hm0 (by decide) (by decide)) rfl ?_
          refine V.iload_n dX6_wayIn_70 rfl ?_
          refine V.iconst (v := nI 0) dX6_wayIn_71 (by decide) ?_
          refine V.iastN dX6_wayIn_72 (R2_92 _ _ _) (show c0 < 84 by omega) (by decide) ?_
          rw [R2_s92]
          refine V.iconst (v := nI 1) dX6_wayIn_73 (by decide) ?_
          refine V.ist5 dX6_wayIn_74 (by decide) rfl ?_
          refine m_way_p l d h n K b th po ba en tt hm0 ha m hm hm10 s w0 c0 c1 (by omega) (fun P A1 B1 Bd hJ hbest hR => ?_) 84 0 (fun j => if j = c0 then some (0, 0) else none) _ _ ?_ ?_ ?_ ⟨fun j hj => ?_, fun j hj q e => ?_⟩ (by omega)
          · have hc2 : ModAt (PR2 h A1 B1) K b KI S := (hc.sums A1).steps B1
            have hq2 : ∀ q, q < 78 ∨ 93 ≤ q → PR2 h A1 B1 q = h q := fun q hq => by unfold PR2; rw [hset_ne _ _ (by omega), hset_ne _ _ (by omega)]
            have hc84 : c1 < 84 := by omega
            refine V.aload_n dX6_wayIn_254 rfl ?_
            refine V.getf dX6_wayIn_255 fl_X6_46 (R2_o _ _ _ hm0 (by decide) (by decide)) rfl ?_
            refine V.iload_n dX6_wayIn_258 rfl ?_
            refine V.ialdN dX6_wayIn_259 (R2_91 _ _ _) hc84 (by decide) ?_
            cases hp : P c1 with
            | none =>
              rw [show A1 c1 = -4 by rw [hR.1 c1 hc84, hp]; rfl]
              refine V.if_lt (tgt := 268) dX6_wayIn_260 (by decide) (fun _ => ?_) (fun y => absurd (by decide) y)
              refine V.aload_n dX6_wayIn_268 rfl ?_
              refine V.getf dX6_wayIn_269 fl_X6_46 (R2_o _ _ _ hm0 (by decide) (by decide)) rfl ?_
              refine V.iload_n dX6_wayIn_272 rfl ?_
              refine V.ialdN dX6_wayIn_273 (R2_91 _ _ _) hc84 (by decide) ?_
              rw [show A1 c1 = -4 by rw [hR.1 c1 hc84, hp]; rfl]
              refine V.goto (tgt := 283) dX6_wayIn_274 (by decide) ?_
              exact V.iret (by exact dX6_wayIn_283) rfl rfl ⟨by rw [hv, ← wayW_eq (v := -4) (Or.inr ⟨rfl, fun ⟨p, hp2⟩ => by obtain ⟨q, e, -⟩ := hbest _ _ _ hp2.1; rw [hp] at e; cases e⟩)], rfl, hc2, hq2⟩
            | some q =>
              have hAj : A1 c1 = nI q.1 := by rw [hR.1 c1 hc84, hp]; rfl
              have hBj : B1 c1 = nI q.2 := hR.2 c1 hc84 q hp
              have hLO : LO K m s c0 c1 q := ⟨(hJ c1 hc84 q hp).1, fun t v hW => by obtain ⟨q3, e3, e4⟩ := hbest t c1 v hW; rw [hp] at e3; rw [Option.some.inj e3]; exact e4⟩
              have h83 := LO_83 (show c0 < 84 by omega) hLO
              have hq1 := Wk_s hm10 hLO.1
              rw [hAj]
              refine V.if_lt (tgt := 268) dX6_wayIn_260 (by decide) (fun y => absurd y (nI_pos (by omega))) (fun _ => ?_)
              refine V.iload dX6_wayIn_263 rfl ?_
              refine V.if_ne (tgt := 277) dX6_wayIn_265 (by decide) (fun c265 => ?_) (fun c265 => ?_)
              · refine V.aload_n dX6_wayIn_277 rfl ?_
                refine V.getf dX6_wayIn_278 fl_X6_49 (R2_o _ _ _ hm0 (by decide) (by decide)) rfl ?_
                refine V.iload_n dX6_wayIn_281 rfl ?_
                refine V.ialdN dX6_wayIn_282 (R2_92 _ _ _) hc84 (by decide) ?_
                rw [hBj]
                exact V.iret (by exact dX6_wayIn_283) rfl rfl ⟨by rw [hv, ← wayW_eq (v := nI q.2) (Or.inl ⟨q, hLO, by rw [if_neg c265]⟩)], rfl, hc2, hq2⟩
              · refine V.aload_n dX6_wayIn_268 rfl ?_
                refine V.getf dX6_wayIn_269 fl_X6_46 (R2_o _ _ _ hm0 (by decide) (by decide)) rfl ?_
                refine V.iload_n dX6_wayIn_272 rfl ?_
                refine V.ialdN dX6_wayIn_273 (R2_91 _ _ _) hc84 (by decide) ?_
                rw [hAj]
                refine V.goto (tgt := 283) dX6_wayIn_274 (by decide) ?_
                exact V.iret (by exact dX6_wayIn_283) rfl rfl ⟨by rw [hv, ← wayW_eq (v := nI q.1) (Or.inl ⟨q, hLO, by rw [if_pos c265]⟩)], rfl, hc2, hq2⟩
          · intro j hj q e
            by_cases y : j = c0
            · subst y
              simp only [if_true] at e
              rw [← Option.some.inj e]
              exact ⟨⟨rfl, rfl⟩, by simp⟩
            · simp only [y, if_false] at e; cases e
          · exact ⟨(0, 0), if_pos rfl, Or.inr ⟨rfl, Nat.le_refl _⟩⟩
          · intro t ht j v hW
            obtain rfl : t = 0 := by omega
            obtain ⟨rfl, rfl⟩ := hW
            exact ⟨(0, 0), if_pos rfl, Or.inr ⟨rfl, Nat.le_refl _⟩⟩
          · by_cases y : j = c0
            · subst y; rw [pk_us]; simp only [if_true]; rfl
            · rw [pk_un y]; simp only [y, if_false]; exact hA j hj
          · by_cases y : j = c0
            · subst y
              simp only [if_true] at e
              rw [pk_us, ← Option.some.inj e]
            · simp only [y, if_false] at e; cases e
        · refine V.iconst (v := -1) dX6_wayIn_32 (by decide) ?_
          exact V.iret (by exact dX6_wayIn_33) rfl rfl ⟨by simp only [wayV, c4, c11, c18, c29, not_true_eq_false, not_false_eq_true, if_true, if_false, decide_true, decide_false, Bool.and_true, Bool.and_false, Bool.true_and, Bool.false_and, Bool.or_true, Bool.or_false, Bool.true_or, Bool.false_or, Bool.not_true, Bool.not_false, and_true, and_false, true_and, false_and, or_true, or_false, true_or, false_or, bIt, bIf, Bool.false_eq_true, reduceCtorEq], rfl, hc, fun _ _ => rfl⟩
