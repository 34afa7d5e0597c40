set_option maxRecDepth 20000 in
set_option maxHeartbeats 4000000 in
theorem s4_watchersOf_loop (l : Launch) (d : Nat) (h : MH) (n w : Nat) (K : KK) (cl P : Nat → Int32) (pn : Nat) (hw : WoodAt h w K cl P pn) (m : Nat) (hm : K 90 = nI m) (hm10 : m ≤ 10) (s c : Int32) (hcc : cellv c) : ∀ (r i : Nat), i + r = m → V l mX4_watchersOf (d + 2) 5 [some (.ref w), some (.int c), some (.int s), some (.int (nI (cN (wtB K s c) i))), some (.int (nI i)), none] [] h n 0 0 (Pv (nI (cN (wtB K s c) m)) h n) := by
  intro r
  induction r with
  | zero =>
    intro i hi
    obtain ⟨hw0, ⟨gr, hgr, egr⟩, ⟨ru, hru, eru⟩, ⟨pq, hpf, epf⟩, hpl, ⟨fl, hfl, efl⟩, ⟨ca, hca, eca⟩, ⟨wa, hwa⟩, hpp, hhd⟩ := id hw
    refine V.iload dX4_watchersOf_5 rfl ?_
    refine V.aload_n dX4_watchersOf_7 rfl ?_
    refine V.getf dX4_watchersOf_8 fl_X4_51 hw0 rfl ?_
    rw [hm]
    refine V.icmp_geN (tgt := 59) dX4_watchersOf_11 (by decide) (by omega) (by omega) (fun _ => ?_) (fun q => absurd q (by omega))
    refine V.iload_n dX4_watchersOf_59 rfl ?_
    exact V.iretP (by exact dX4_watchersOf_60) rfl (by rw [show i = m by omega]) rfl
  | succ r ih =>
    intro i hi
    obtain ⟨hw0, ⟨gr, hgr, egr⟩, ⟨ru, hru, eru⟩, ⟨pq, hpf, epf⟩, hpl, ⟨fl, hfl, efl⟩, ⟨ca, hca, eca⟩, ⟨wa, hwa⟩, hpp, hhd⟩ := id hw
    refine V.iload dX4_watchersOf_5 rfl ?_
    refine V.aload_n dX4_watchersOf_7 rfl ?_
    refine V.getf dX4_watchersOf_8 fl_X4_51 hw0 rfl ?_
    rw [hm]
    refine V.icmp_geN (tgt := 59) dX4_watchersOf_11 (by decide) (by omega) (by omega) (fun q => absurd q (by omega)) (fun _ => ?_)
    refine V.aload_n dX4_watchersOf_14 rfl ?_
    refine V.getf dX4_watchersOf_15 fl_X4_20 hw0 rfl ?_
    refine V.iload dX4_watchersOf_18 rfl ?_
    refine V.aaldN dX4_watchersOf_20 (Or.inl rfl) hpf (by omega) (by decide) (epf _ (by omega)) ?_
    refine V.ast5 dX4_watchersOf_21 (by decide) rfl ?_
    refine V.aload dX4_watchersOf_23 rfl ?_
    refine V.getf dX4_watchersOf_25 fl_X4_104 (hpp _ (by omega)) rfl ?_
    refine V.iload_n dX4_watchersOf_28 rfl ?_
    refine V.icmp_ne (tgt := 53) dX4_watchersOf_29 (by decide) (fun c29 => ?_) (fun c29 => ?_)
    · refine V.inN4 dX4_watchersOf_53 (by decide) rfl ?_
      refine V.goto (tgt := 5) dX4_watchersOf_56 (by decide) ?_
      exact V.drop 5 (V.ls (by (try simp only [← Int32.not_le, Classical.not_not, decide_eq_true_eq, decide_eq_false_iff_not] at c29); simp only [cN, wtB, ← Int32.not_le, c29, List.set_cons_succ, List.set_cons_zero, not_true_eq_false, not_false_eq_true, if_true, if_false, decide_true, decide_false, Bool.and_true, Bool.and_false, Bool.true_and, Bool.false_and, Bool.or_true, Bool.or_false, Bool.true_or, Bool.false_or, Bool.not_true, Bool.not_false, and_true, and_false, true_and, false_and, or_true, or_false, true_or, false_or, bIt, bIf, Bool.false_eq_true, reduceCtorEq, Nat.add_zero, Int32.add_zero, nI_add] <;> rfl) (ih (i + 1) (by omega)))
    · refine V.aload dX4_watchersOf_32 rfl ?_
      refine V.callVv [] dX4_watchersOf_34 lk_X4_135 rfl (Nat.le_of_ble_eq_true rfl) (Nat.le_of_ble_eq_true rfl) (hpp _ (by omega)) rfl (s0_isFree _ _ _ _ _ _ _ _ _ hw _ (by omega)) ?_
      refine V.if_eqB (tgt := 53) dX4_watchersOf_37 (by decide) (fun c37 => ?_) (fun c37 => ?_)
      · refine V.inN4 dX4_watchersOf_53 (by decide) rfl ?_
        refine V.goto (tgt := 5) dX4_watchersOf_56 (by decide) ?_
        exact V.drop 5 (V.ls (by (try simp only [← Int32.not_le, Classical.not_not, decide_eq_true_eq, decide_eq_false_iff_not] at c29 c37); simp only [cN, wtB, ← Int32.not_le, eq_true c29, c37, List.set_cons_succ, List.set_cons_zero, not_true_eq_false, not_false_eq_true, if_true, if_false, decide_true, decide_false, Bool.and_true, Bool.and_false, Bool.true_and, Bool.false_and, Bool.or_true, Bool.or_false, Bool.true_or, Bool.false_or, Bool.not_true, Bool.not_false, and_true, and_false, true_and, false_and, or_true, or_false, true_or, false_or, bIt, bIf, Bool.false_eq_true, reduceCtorEq, Nat.add_zero, Int32.add_zero, nI_add] <;> rfl) (ih (i + 1) (by omega)))
      · refine V.aload_n dX4_watchersOf_40 rfl ?_
        refine V.aload dX4_watchersOf_41 rfl ?_
        refine V.iload_n dX4_watchersOf_43 rfl ?_
        refine V.callVv [_, _] dX4_watchersOf_44 lk_X4_145 rfl (Nat.le_of_ble_eq_true rfl) (Nat.le_of_ble_eq_true rfl) hw0 rfl (s4_spotsI _ _ _ _ _ _ _ _ _ hw _ _ (by omega) hcc (cAt_fr c37)) ?_
        refine V.if_eqB (tgt := 53) dX4_watchersOf_47 (by decide) (fun c47 => ?_) (fun c47 => ?_)
        · refine V.inN4 dX4_watchersOf_53 (by decide) rfl ?_
          refine V.goto (tgt := 5) dX4_watchersOf_56 (by decide) ?_
          exact V.drop 5 (V.ls (by (try simp only [← Int32.not_le, Classical.not_not, decide_eq_true_eq, decide_eq_false_iff_not] at c29 c37 c47); simp only [cN, wtB, ← Int32.not_le, eq_true c29, c37, c47, List.set_cons_succ, List.set_cons_zero, not_true_eq_false, not_false_eq_true, if_true, if_false, decide_true, decide_false, Bool.and_true, Bool.and_false, Bool.true_and, Bool.false_and, Bool.or_true, Bool.or_false, Bool.true_or, Bool.false_or, Bool.not_true, Bool.not_false, and_true, and_false, true_and, false_and, or_true, or_false, true_or, false_or, bIt, bIf, Bool.false_eq_true, reduceCtorEq, Nat.add_zero, Int32.add_zero, nI_add] <;> rfl) (ih (i + 1) (by omega)))
        · refine V.inN3 dX4_watchersOf_50 (by decide) rfl ?_
          refine V.inN4 dX4_watchersOf_53 (by decide) rfl ?_
          refine V.goto (tgt := 5) dX4_watchersOf_56 (by decide) ?_
          exact V.drop 5 (V.ls (by (try simp only [← Int32.not_le, Classical.not_not, decide_eq_true_eq, decide_eq_false_iff_not] at c29 c37 c47); simp only [cN, wtB, ← Int32.not_le, eq_true c29, c37, c47, List.set_cons_succ, List.set_cons_zero, not_true_eq_false, not_false_eq_true, if_true, if_false, decide_true, decide_false, Bool.and_true, Bool.and_false, Bool.true_and, Bool.false_and, Bool.or_true, Bool.or_false, Bool.true_or, Bool.false_or, Bool.not_true, Bool.not_false, and_true, and_false, true_and, false_and, or_true, or_false, true_or, false_or, bIt, bIf, Bool.false_eq_true, reduceCtorEq, Nat.add_zero, Int32.add_zero, nI_add] <;> rfl) (ih (i + 1) (by omega)))
set_option maxRecDepth 20000 in
set_option maxHeartbeats 4000000 in
theorem s4_watchersOf (l : Launch) (d : Nat) (h : MH) (n w : Nat) (K : KK) (cl P : Nat → Int32) (pn : Nat) (hw : WoodAt h w K cl P pn) (m : Nat) (hm : K 90 = nI m) (hm10 : m ≤ 10) (s c : Int32) (hcc : cellv c) : Sp l mX4_watchersOf (d + 2) [.ref w, .int c, .int s] h n 0 0 (Pv (nI (cN (wtB K s c) m)) h n) := by
  show V _ _ _ _ [some (.ref w), some (.int c), some (.int s), none, none, none] _ _ _ _ _ _
  refine V.iconst (v := nI 0) dX4_watchersOf_0 (by decide) ?_
  refine V.ist3 dX4_watchersOf_1 (by decide) rfl ?_
  refine V.iconst (v := nI 0) dX4_watchersOf_2 (by decide) ?_
  refine V.ist4 dX4_watchersOf_3 (by decide) rfl ?_
  exact s4_watchersOf_loop l d h n w K cl P pn hw m hm hm10 s c hcc m 0 (by omega)
/-- the costs after the ways of x are looked at -/
def rlx (K : KK) (m : Nat) (s : Int32) (U : Nat → Bool) (E : Nat → Nat) (x : Nat) (R : Nat → Bool) (j : Nat) : Nat := if (R j && (!U j && opC K j)) = true then (if E x + 1 + 1000 * sn K m s j < E j then E x + 1 + 1000 * sn K m s j else E j) else E j
def rcw (x v j : Nat) : Bool := eB (fun w1 => decide (cbs x w1 = some j)) v
theorem rcw_s (x v j : Nat) : rcw x (v + 1) j = (rcw x v j || decide (cbs x v = some j)) := rfl
theorem rcw_4 (x : Nat) : rcw x 4 = adjC x := rfl
def Ux (U : Nat → Bool) (x : Nat) (j : Nat) : Bool := U j || decide (j = x)
theorem Ux_ne {U : Nat → Bool} {x j : Nat} (h : j ≠ x) : Ux U x j = U j := by rw [Ux, decide_eq_false h, Bool.or_false]
theorem Ux_x (U : Nat → Bool) (x : Nat) : Ux U x x = true := by rw [Ux, decide_eq_true rfl, Bool.or_true]
theorem DI_step {K : KK} {m : Nat} {s : Int32} {c0 c1 : Nat} {U : Nat → Bool} {E : Nat → Nat} {i x : Nat} (h0 : c0 < 84) (hm : m ≤ 10) (h : DI K m s c0 c1 U E i) (hx : x < 84) (hUx : U x = false) (hEx : E x < 2147483647) (hmin : ∀ j, j < 84 → U j = false → E x ≤ E j) (hx1 : c1 ≠ x) : DI K m s c0 c1 (Ux U x) (rlx K m s (Ux U x) E x (adjC x)) (i + 1) := by
  have key := fun {t c v : Nat} => DI_key (t := t) (c := c) (v := v) h0 hm h
  obtain ⟨a1, a2, a3, a4, a5, a6, a7, a8⟩ := h
  have lb : ∀ t v, Wk K m s c0 t x v → E x ≤ 1000 * v + t := fun t v hW => by
    rcases key hW with y | ⟨j, j1, j2, j3, j4⟩
    · rw [hUx] at y; cases y
    · have := hmin j j1 j2; omega
  have hset : ∀ j, Ux U x j = true → rlx K m s (Ux U x) E x (adjC x) j = E j := fun j hj => by
    unfold rlx
    rw [hj, if_neg (by simp)]
  have hle : ∀ j, rlx K m s (Ux U x) E x (adjC x) j ≤ E j := fun j => by
    unfold rlx
    split
    · split <;> omega
    · exact Nat.le_refl _
  have hor : ∀ j, rlx K m s (Ux U x) E x (adjC x) j = E j ∨ (rlx K m s (Ux U x) E x (adjC x) j = E x + 1 + 1000 * sn K m s j ∧ adjC x j = true ∧ opC K j = true ∧ E x + 1 + 1000 * sn K m s j < E j) := fun j => by
    unfold rlx
    split
    · rename_i c
      rw [Bool.and_eq_true, Bool.and_eq_true] at c
      split
      · rename_i c2; exact Or.inr ⟨rfl, c.1, c.2.2, c2⟩
      · exact Or.inl rfl
    · exact Or.inl rfl
  have hsn : ∀ j, sn K m s j ≤ 10 := fun j => Nat.le_trans (cN_le _ _) hm
  have hx2 := (a1 x hx hEx)
  refine ⟨fun j hj hE => ?_, fun j hj => Nat.le_trans (hle j) (a2 j hj), fun j hj hU => ?_, fun u j hu hj hU h1 h2 => ?_, fun u j hu hj hU hUj => ?_, ?_, ?_, ?_⟩
  · rcases hor j with y | ⟨y, y1, y2, y3⟩
    · rw [y] at hE ⊢
      have := a1 j hj hE
      exact ⟨this.1, by omega⟩
    · obtain ⟨⟨t, v, w1, w2⟩, w3⟩ := hx2
      have := hsn j
      rw [y]
      exact ⟨⟨t + 1, v + sn K m s j, ⟨x, v, w1, y1, y2, rfl⟩, by omega⟩, by omega⟩
  · rw [hset j hU]
    by_cases y : j = x
    · subst y; exact ⟨hEx, lb⟩
    · rw [Ux_ne y] at hU; exact a3 j hj hU
  · rw [hset u hU]
    by_cases y : u = x
    · subst y
      by_cases y2 : Ux U u j = true
      · rw [hset j y2]
        by_cases y3 : j = u
        · subst y3; omega
        · rw [Ux_ne y3] at y2
          have := a5 j u hj hu y2 hUx
          omega
      · unfold rlx
        rw [h1, h2, Bool.not_eq_true _ |>.mp y2, if_pos (by rfl)]
        split <;> omega
    · rw [Ux_ne y] at hU
      have := a4 u j hu hj hU h1 h2
      have := hle j
      omega
  · rw [hset u hU]
    have hjx : j ≠ x := fun e => by subst e; rw [Ux_x] at hUj; cases hUj
    have hUj2 : U j = false := by rw [← Ux_ne (U := U) hjx]; exact hUj
    have e1 : E u ≤ E x := by
      by_cases y : u = x
      · rw [y]; exact Nat.le_refl _
      · rw [Ux_ne y] at hU; exact a5 u x hu hx hU hUx
    have e2 : E u ≤ E j := by
      by_cases y : u = x
      · rw [y]; exact hmin j hj hUj2
      · rw [Ux_ne y] at hU; exact a5 u j hu hj hU hUj2
    rcases hor j with y | ⟨y, -⟩
    · rw [y]; exact e2
    · rw [y]; omega
  · have := hle c0; omega
  · rw [cN_flip (f := U) (b := x) hUx (Ux_x U x) (fun j hj => Ux_ne hj) hx, a7]
  · rw [Ux_ne hx1]; exact a8
theorem cN_all {f : Nat → Bool} : ∀ {m : Nat}, cN f m = m → ∀ j, j < m → f j = true := by
  intro m
  induction m with
  | zero => intro _ j hj; omega
  | succ m ih =>
    intro h j hj
    have h1 := cN_le f m
    rw [cN] at h
    by_cases q : f m = true
    · rw [if_pos q] at h
      by_cases y : j = m
      · rw [y]; exact q
      · exact ih (by omega) j (by omega)
    · rw [if_neg q] at h; omega
/-- the scout's rows -/
def PP (h : MH) (A Z : Nat → Int32) : MH := hset (hset h 60 (.inl (0, 84, .inl A))) 61 (.inl (1, 84, .inl Z))
theorem PP_o (h : MH) (A Z : Nat → Int32) {q : Nat} {y : MC} (hq : h q = some y) (h1 : q ≠ 60) (h2 : q ≠ 61) : PP h A Z q = some y := o_ne (o_ne hq h1) h2
theorem PP_60 (h : MH) (A Z : Nat → Int32) : PP h A Z 60 = some (.inl (0, 84, .inl A)) := o_ne (hset_self _ _ _) (by decide)
theorem PP_61 (h : MH) (A Z : Nat → Int32) : PP h A Z 61 = some (.inl (1, 84, .inl Z)) := hset_self _ _ _
theorem PP_s60 (h : MH) (A Z B : Nat → Int32) : hset (PP h A Z) 60 (.inl (0, 84, .inl B)) = PP h B Z := by
  unfold PP
  rw [hset_comm _ _ _ (show 61 ≠ 60 by decide), hset_hset]
theorem PP_s61 (h : MH) (A Z B : Nat → Int32) : hset (PP h A Z) 61 (.inl (1, 84, .inl B)) = PP h A B := by
  unfold PP
  rw [hset_hset]
/-- the cheapest that isn't settled -/
def CH (U : Nat → Bool) (E : Nat → Nat) (c : Nat) (o : Option Nat) (L : Nat) : Prop := (o = none ∧ L = 2147483647 ∧ ∀ j, j < c → U j = true ∨ 2147483647 ≤ E j) ∨ ∃ x, o = some x ∧ x < c ∧ U x = false ∧ E x = L ∧ L < 2147483647 ∧ ∀ j, j < c → U j = false → L ≤ E j
set_option maxRecDepth 20000 in
set_option maxHeartbeats 4000000 in
theorem s2_cheapest_loop (l : Launch) (d : Nat) (h : MH) (n : Nat) (h59 : h 59 = some (.inr (2, [.ref 60, .ref 61]))) (A Z : Nat → Int32) (U : Nat → Bool) (E : Nat → Nat) (hA : ∀ j, j < 84 → A j = nI (E j)) (hZ : ∀ j, j < 84 → Z j = bI (U j)) (hE : ∀ j, j < 84 → E j ≤ 2147483647) : ∀ (r c : Nat) (o : Option Nat) (L : Nat), CH U E c o L → c + r = 84 → V l mX2_cheapest d 8 [some (.ref 59), some (.int (gI o)), some (.int (nI L)), some (.int (nI c))] [] (PP h A Z) n 0 0 (fun v h1 n1 => ∃ o L, v = some (.int (gI o)) ∧ h1 = PP h A Z ∧ n1 = n ∧ CH U E 84 o L) := by
  intro r
  induction r with
  | zero =>
    intro c o L hC hc
    refine V.iload_n dX2_cheapest_8 rfl ?_
    refine V.bipush (v := nI 84) dX2_cheapest_9 (by decide) ?_
    refine V.icmp_geN (tgt := 48) dX2_cheapest_11 (by decide) (by omega) (by omega) (fun _ => ?_) (fun q => absurd q (by omega))
    refine V.iload_n dX2_cheapest_48 rfl ?_
    exact V.iret (by exact dX2_cheapest_49) rfl rfl ⟨o, L, rfl, rfl, rfl, by rw [show 84 = c by omega]; exact hC⟩
  | succ r ih =>
    intro c o L hC hc
    refine V.iload_n dX2_cheapest_8 rfl ?_
    refine V.bipush (v := nI 84) dX2_cheapest_9 (by decide) ?_
    refine V.icmp_geN (tgt := 48) dX2_cheapest_11 (by decide) (by omega) (by omega) (fun q => absurd q (by omega)) (fun _ => ?_)
    refine V.aload_n dX2_cheapest_14 rfl ?_
    refine V.getf dX2_cheapest_15 fl_X2_15 (PP_o _ _ _ h59 (by decide) (by decide)) rfl ?_
    refine V.iload_n dX2_cheapest_18 rfl ?_
    refine V.zaldN dX2_cheapest_19 (PP_61 _ _ _) (by omega) (by decide) ?_
    rw [hZ c (by omega)]
    refine V.if_neB (tgt := 42) dX2_cheapest_20 (by decide) (fun c20 => ?_) (fun c20 => ?_)
    · refine V.inN3 dX2_cheapest_42 (by decide) rfl ?_
      refine V.goto (tgt := 8) dX2_cheapest_45 (by decide) ?_
      refine ih (c + 1) o L ?_ (by omega)
      rcases hC with ⟨e1, e2, e3⟩ | ⟨x, e1, e2, e3, e4, e5, e6⟩
      · refine Or.inl ⟨e1, e2, fun j hj => ?_⟩
        by_cases y : j = c
        · subst y
          first
          | exact Or.inl c20
          | exact Or.inr (by omega)
        · exact e3 j (by omega)
      · refine Or.inr ⟨x, e1, by omega, e3, e4, e5, fun j hj hU => ?_⟩
        by_cases y : j = c
        · subst y
          first
          | exact absurd (c20.symm.trans hU) (by decide)
          | omega
        · exact e6 j (by omega) hU
    · refine V.aload_n dX2_cheapest_23 rfl ?_
      refine V.getf dX2_cheapest_24 fl_X2_9 (PP_o _ _ _ h59 (by decide) (by decide)) rfl ?_
      refine V.iload_n dX2_cheapest_27 rfl ?_
      refine V.ialdN dX2_cheapest_28 (PP_60 _ _ _) (by omega) (by decide) ?_
      rw [hA c (by omega)]
      refine V.iload_n dX2_cheapest_29 rfl ?_
      have hLL : L ≤ 2147483647 := by
        rcases hC with ⟨-, y, -⟩ | ⟨x, -, -, -, -, y, -⟩ <;> omega
      have hEc := hE c (by omega)
      refine V.icmp_geN (tgt := 42) dX2_cheapest_30 (by decide) (by omega) (by omega) (fun c30 => ?_) (fun c30 => ?_)
      · refine V.inN3 dX2_cheapest_42 (by decide) rfl ?_
        refine V.goto (tgt := 8) dX2_cheapest_45 (by decide) ?_
        refine ih (c + 1) o L ?_ (by omega)
        rcases hC with ⟨e1, e2, e3⟩ | ⟨x, e1, e2, e3, e4, e5, e6⟩
        · refine Or.inl ⟨e1, e2, fun j hj => ?_⟩
          by_cases y : j = c
          · subst y
            first
            | exact Or.inl c20
            | exact Or.inr (by omega)
          · exact e3 j (by omega)
        · refine Or.inr ⟨x, e1, by omega, e3, e4, e5, fun j hj hU => ?_⟩
          by_cases y : j = c
          · subst y
            first
            | exact absurd (c20.symm.trans hU) (by decide)
            | omega
          · exact e6 j (by omega) hU
      · refine V.aload_n dX2_cheapest_33 rfl ?_
        refine V.getf dX2_cheapest_34 fl_X2_9 (PP_o _ _ _ h59 (by decide) (by decide)) rfl ?_
        refine V.iload_n dX2_cheapest_37 rfl ?_
        refine V.ialdN dX2_cheapest_38 (PP_60 _ _ _) (by omega) (by decide) ?_
        rw [hA c (by omega)]
        refine V.ist2 dX2_cheapest_39 (by decide) rfl ?_
        refine V.iload_n dX2_cheapest_40 rfl ?_
        refine V.ist1 dX2_cheapest_41 (by decide) rfl ?_
        refine V.inN3 dX2_cheapest_42 (by decide) rfl ?_
        refine V.goto (tgt := 8) dX2_cheapest_45 (by decide) ?_
        refine ih (c + 1) (some c) (E c) (Or.inr ⟨c, rfl, by omega, c20, rfl, by omega, fun j hj hU => ?_⟩) (by omega)
        by_cases y : j = c
        · rw [y]; exact Nat.le_refl _
        · rcases hC with ⟨-, e2, e3⟩ | ⟨x, -, -, -, -, e5, e6⟩
          · rcases e3 j (by omega) with e | e
            · rw [hU] at e; cases e
            · omega
          · have := e6 j (by omega) hU; omega
set_option maxRecDepth 20000 in
set_option maxHeartbeats 4000000 in
theorem s2_cheapest (l : Launch) (d : Nat) (h : MH) (n : Nat) (h59 : h 59 = some (.inr (2, [.ref 60, .ref 61]))) (A Z : Nat → Int32) (U : Nat → Bool) (E : Nat → Nat) (hA : ∀ j, j < 84 → A j = nI (E j)) (hZ : ∀ j, j < 84 → Z j = bI (U j)) (hE : ∀ j, j < 84 → E j ≤ 2147483647) : Sp l mX2_cheapest d [.ref 59] (PP h A Z) n 0 0 (fun v h1 n1 => ∃ o L, v = some (.int (gI o)) ∧ h1 = PP h A Z ∧ n1 = n ∧ CH U E 84 o L) := by
  show V _ _ _ _ [some (.ref 59), none, none, none] _ _ _ _ _ _
  refine V.bipush (v := -4) dX2_cheapest_0 (by decide) ?_
  refine V.ist1 dX2_cheapest_2 (by decide) rfl ?_
  refine V.ldc dX2_cheapest_3 cn_X2_40 ?_
  refine V.ist2 dX2_cheapest_5 (by decide) rfl ?_
  refine V.iconst (v := nI 0) dX2_cheapest_6 (by decide) ?_
  refine V.ist3 dX2_cheapest_7 (by decide) rfl ?_
  exact s2_cheapest_loop l d h n h59 A Z U E hA hZ hE 84 0 none 2147483647 (Or.inl ⟨rfl, rfl, fun j hj => absurd hj (by omega)⟩) (by omega)
set_option maxRecDepth 20000 in
set_option maxHeartbeats 4000000 in
theorem s2_relax (l : Launch) (d : Nat) (h : MH) (n w : Nat) (K : KK) (cl P : Nat → Int32) (pn : Nat) (hw : WoodAt h w K cl P pn) (m : Nat) (hm : K 90 = nI m) (hm10 : m ≤ 10) (hwq : w + 18 ≤ 59) (h59 : h 59 = some (.inr (2, [.ref 60, .ref 61]))) (s : Int32) (c0 c1 i x : Nat) (hx : x < 84) (U : Nat → Bool) (E : Nat → Nat) (Z : Nat → Int32) (hZ : ∀ j, j < 84 → Z j = bI (Ux U x j)) (hE : ∀ j, j < 84 → E j ≤ 2147483647) (hEx : E x ≤ 1000000) {Q : Option Value → MH → Nat → Prop} (kk : ∀ A : Nat → Int32, (∀ j, j < 84 → A j = nI (rlx K m s (Ux U x) E x (rcw x 4) j)) → V l mX2_leastSeenWay (d + 3) 182 [some (.ref 59), some (.ref w), some (.int (nI c0)), some (.int (nI c1)), some (.int s), some (.int (nI i)), some (.int (nI x)), none, none, none] [] (PP h A Z) n 0 0 Q) : ∀ (r v : Nat) (A : Nat → Int32), (∀ j, j < 84 → A j = nI (rlx K m s (Ux U x) E x (rcw x v) j)) → v + r = 4 → V l mX2_leastSeenWay (d + 3) 91 [some (.ref 59), some (.ref w), some (.int (nI c0)), some (.int (nI c1)), some (.int s), some (.int (nI i)), some (.int (nI x)), some (.int (nI v)), none, none] [] (PP h A Z) n 0 0 Q := by
  obtain ⟨hw0, ⟨gr, hgr, egr⟩, ⟨ru, hru, eru⟩, ⟨pq, hpf, epf⟩, hpl, ⟨fl, hfl, efl⟩, ⟨ca, hca, eca⟩, ⟨wa, hwa⟩, hpp, hhd⟩ := id hw
  intro r
  induction r with
  | zero =>
    intro v A hA hv
    refine V.iload dX2_leastSeenWay_91 rfl ?_
    refine V.iconst (v := nI 4) dX2_leastSeenWay_93 (by decide) ?_
    refine V.icmp_geN (tgt := 182) dX2_leastSeenWay_94 (by decide) (by omega) (by omega) (fun _ => ?_) (fun q => absurd q (by omega))
    have hv4 : v = 4 := by omega
    subst hv4
    exact V.drop 7 (kk A hA)
  | succ r ih =>
    intro v A hA hv
    refine V.iload dX2_leastSeenWay_91 rfl ?_
    refine V.iconst (v := nI 4) dX2_leastSeenWay_93 (by decide) ?_
    refine V.icmp_geN (tgt := 182) dX2_leastSeenWay_94 (by decide) (by omega) (by omega) (fun q => absurd q (by omega)) (fun _ => ?_)
    refine V.iload dX2_leastSeenWay_97 rfl ?_
    refine V.iload dX2_leastSeenWay_99 rfl ?_
    refine V.callSv [_, _] dX2_leastSeenWay_101 lk_X2_45 rfl (Nat.le_of_ble_eq_true rfl) (Nat.le_of_ble_eq_true rfl) (s2_beside _ _ _ _ _ _ hx (by omega)) ?_
    refine V.ist8 dX2_leastSeenWay_104 (by decide) rfl ?_
    refine V.iload dX2_leastSeenWay_106 rfl ?_
    refine V.bipush (v := -4) dX2_leastSeenWay_108 (by decide) ?_
    cases hb : cbs x v with
    | none =>
      refine V.icmp_eq (tgt := 176) dX2_leastSeenWay_110 (by decide) (fun _ => ?_) (fun q => absurd rfl q)
      have hsame : ∀ j, rlx K m s (Ux U x) E x (rcw x v) j = rlx K m s (Ux U x) E x (rcw x (v + 1)) j := fun j => by
        unfold rlx
        rw [rcw_s, hb]
        simp
      refine V.inN7 dX2_leastSeenWay_176 (by decide) rfl ?_
      refine V.goto (tgt := 91) dX2_leastSeenWay_179 (by decide) ?_
      exact V.drop 8 (ih (v + 1) A (fun j hj => by rw [hA j hj, hsame j]) (by omega))
    | some j0 =>
      have hj0 := cbs_lt x hx v (by omega) j0 hb
      have hne : ∀ j, j ≠ j0 → (rcw x v j || decide (some j0 = some j)) = rcw x v j := fun j hj => by rw [decide_eq_false (fun e => hj (Option.some.inj e).symm), Bool.or_false]
      refine V.icmp_eq (tgt := 176) dX2_leastSeenWay_110 (by decide) (fun q => absurd q.symm (neg4_ne (by omega))) (fun _ => ?_)
      refine V.aload_n dX2_leastSeenWay_113 rfl ?_
      refine V.getf dX2_leastSeenWay_114 fl_X2_15 (PP_o _ _ _ h59 (by decide) (by decide)) rfl ?_
      refine V.iload dX2_leastSeenWay_117 rfl ?_
      refine V.zaldN dX2_leastSeenWay_119 (PP_61 _ _ _) hj0 (by decide) ?_
      rw [hZ j0 hj0]
      refine V.if_neB (tgt := 176) dX2_leastSeenWay_120 (by decide) (fun c120 => ?_) (fun c120 => ?_)
      · have hsame : ∀ j, rlx K m s (Ux U x) E x (rcw x v) j = rlx K m s (Ux U x) E x (rcw x (v + 1)) j := fun j => by
          unfold rlx
          rw [rcw_s, hb]
          by_cases y : j = j0
          · subst y; rw [c120]; simp
          · rw [hne j y]
        refine V.inN7 dX2_leastSeenWay_176 (by decide) rfl ?_
        refine V.goto (tgt := 91) dX2_leastSeenWay_179 (by decide) ?_
        exact V.drop 8 (ih (v + 1) A (fun j hj => by rw [hA j hj, hsame j]) (by omega))
      · refine V.aload_n dX2_leastSeenWay_123 rfl ?_
        refine V.iload dX2_leastSeenWay_124 rfl ?_
        refine V.callVv [_] dX2_leastSeenWay_126 lk_X2_19 rfl (Nat.le_of_ble_eq_true rfl) (Nat.le_of_ble_eq_true rfl) (PP_o _ _ _ hw0 (by omega) (by omega)) rfl (s4_groundOf _ _ _ _ _ _ _ _ _ (hw.far fun q _ _ => by unfold PP; rw [hset_ne _ _ (by omega), hset_ne _ _ (by omega)]) j0 hj0) ?_
        refine V.iconst (v := nI 3) dX2_leastSeenWay_129 (by decide) ?_
        refine V.icmp_eq (tgt := 176) dX2_leastSeenWay_130 (by decide) (fun c131 => ?_) (fun c131 => ?_)
        · have hsame : ∀ j, rlx K m s (Ux U x) E x (rcw x v) j = rlx K m s (Ux U x) E x (rcw x (v + 1)) j := fun j => by
            unfold rlx
            rw [rcw_s, hb]
            by_cases y : j = j0
            · subst y; rw [opC, decide_eq_true c131]; simp
            · rw [hne j y]
          refine V.inN7 dX2_leastSeenWay_176 (by decide) rfl ?_
          refine V.goto (tgt := 91) dX2_leastSeenWay_179 (by decide) ?_
          exact V.drop 8 (ih (v + 1) A (fun j hj => by rw [hA j hj, hsame j]) (by omega))
        · have hop : opC K j0 = true := by rw [opC, decide_eq_false c131]; rfl
          have hxx : rlx K m s (Ux U x) E x (rcw x v) x = E x := by unfold rlx; rw [Ux_x, if_neg (by simp)]
          refine V.aload_n dX2_leastSeenWay_133 rfl ?_
          refine V.getf dX2_leastSeenWay_134 fl_X2_9 (PP_o _ _ _ h59 (by decide) (by decide)) rfl ?_
          refine V.iload dX2_leastSeenWay_137 rfl ?_
          refine V.ialdN dX2_leastSeenWay_139 (PP_60 _ _ _) hx (by decide) ?_
          rw [hA x hx, hxx]
          refine V.iconst (v := nI 1) dX2_leastSeenWay_140 (by decide) ?_
          refine V.iaddN dX2_leastSeenWay_141 ?_
          refine V.sipush (v := nI 1000) dX2_leastSeenWay_142 (by decide) ?_
          refine V.aload_n dX2_leastSeenWay_145 rfl ?_
          refine V.iload dX2_leastSeenWay_146 rfl ?_
          refine V.iload dX2_leastSeenWay_148 rfl ?_
          refine V.callVv [_, _] dX2_leastSeenWay_150 lk_X2_48 rfl (Nat.le_of_ble_eq_true rfl) (Nat.le_of_ble_eq_true rfl) (PP_o _ _ _ hw0 (by omega) (by omega)) rfl (s4_watchersOf _ _ _ _ _ _ _ _ _ (hw.far fun q _ _ => by unfold PP; rw [hset_ne _ _ (by omega), hset_ne _ _ (by omega)]) m hm hm10 s (nI j0) ⟨j0, hj0, rfl⟩) ?_
          refine V.imulN dX2_leastSeenWay_153 ?_
          refine V.iaddN dX2_leastSeenWay_154 ?_
          refine V.ist9 dX2_leastSeenWay_155 (by decide) rfl ?_
          refine V.aload_n dX2_leastSeenWay_157 rfl ?_
          refine V.getf dX2_leastSeenWay_158 fl_X2_9 (PP_o _ _ _ h59 (by decide) (by decide)) rfl ?_
          refine V.iload dX2_leastSeenWay_161 rfl ?_
          refine V.aload_n dX2_leastSeenWay_163 rfl ?_
          refine V.getf dX2_leastSeenWay_164 fl_X2_9 (PP_o _ _ _ h59 (by decide) (by decide)) rfl ?_
          refine V.iload dX2_leastSeenWay_167 rfl ?_
          refine V.ialdN dX2_leastSeenWay_169 (PP_60 _ _ _) hj0 (by decide) ?_
          refine V.iload dX2_leastSeenWay_170 rfl ?_
          refine V.mmin dX2_leastSeenWay_172 wm_X2_51 w_mins w_math w_minc (by omega) (Nat.le_of_ble_eq_true rfl) ?_
          rw [hA j0 hj0]
          refine V.iastN dX2_leastSeenWay_175 (PP_60 _ _ _) hj0 (by decide) ?_
          rw [PP_s60]
          refine V.inN7 dX2_leastSeenWay_176 (by decide) rfl ?_
          refine V.goto (tgt := 91) dX2_leastSeenWay_179 (by decide) ?_
          have hsn : sn K m s j0 ≤ m := cN_le _ _
          have hE0 := hE j0 hj0
          refine V.drop 8 (V.drop 9 (ih (v + 1) _ (fun j hj => ?_) (by omega)))
          by_cases y : j = j0
          · subst y
            rw [pk_us]
            change (if nI (E x + 1 + 1000 * sn K m s j) < nI (rlx K m s (Ux U x) E x (rcw x v) j) then nI (E x + 1 + 1000 * sn K m s j) else nI (rlx K m s (Ux U x) E x (rcw x v) j)) = _
            have hr : rlx K m s (Ux U x) E x (rcw x (v + 1)) j = if E x + 1 + 1000 * sn K m s j < E j then E x + 1 + 1000 * sn K m s j else E j := by
              unfold rlx
              rw [rcw_s, hb, decide_eq_true rfl, Bool.or_true, c120, hop]
              rfl
            have hr2 : rlx K m s (Ux U x) E x (rcw x v) j = E j ∨ rlx K m s (Ux U x) E x (rcw x v) j = if E x + 1 + 1000 * sn K m s j < E j then E x + 1 + 1000 * sn K m s j else E j := by
              unfold rlx
              split
              · exact Or.inr rfl
              · exact Or.inl rfl
            rw [hr]
            rcases hr2 with e | e
            · rw [e]
              by_cases y2 : E x + 1 + 1000 * sn K m s j < E j
              · rw [if_pos y2, if_pos ((nI_ltI (by omega) (by omega)).mpr y2)]
              · rw [if_neg y2, if_neg (fun q => y2 ((nI_ltI (by omega) (by omega)).mp q))]
            · rw [e]
              by_cases y2 : E x + 1 + 1000 * sn K m s j < E j
              · rw [if_pos y2, if_neg (fun q => absurd ((nI_ltI (by omega) (by omega)).mp q) (by omega))]
              · rw [if_neg y2, if_neg (fun q => y2 ((nI_ltI (by omega) (by omega)).mp q))]
          · rw [pk_un y, hA j hj]
            unfold rlx
            rw [rcw_s, hb, hne j y]
