theorem pn0 {k : Nat} (h : k ≤ 4) (hk : nI k ≤ 0) : k = 0 := by
  rcases (show k = 0 ∨ k = 1 ∨ k = 2 ∨ k = 3 ∨ k = 4 by omega) with rfl | rfl | rfl | rfl | rfl
  · rfl
  all_goals exact absurd hk (by decide)
/-- how many of the first i rows of plans are a side's -/
def cntS (P : Nat → Int32) (e : Nat) : Nat → Nat
  | 0 => 0
  | i + 1 => cntS P e i + (if P (4 * i) = nI e then 1 else 0)
/-- the class's row of plans and the reference's -/
def PR (K : KK) (P : Nat → Int32) (pn : Nat) : Prop := pn ≤ 4 ∧ (∀ e, e < 2 → K (100 + 7 * e) = nI (cntS P e pn) ∧ cntS P e pn ≤ 2) ∧ (∀ i, i < pn → P (4 * i) = nI 0 ∨ P (4 * i) = nI 1) ∧ ∀ i e, i < pn → e < 2 → P (4 * i) = nI e → K (100 + 7 * e + 1 + 3 * cntS P e i) = P (4 * i + 1) ∧ K (100 + 7 * e + 2 + 3 * cntS P e i + 0) = P (4 * i + 2 + 0) ∧ K (100 + 7 * e + 2 + 3 * cntS P e i + 1) = P (4 * i + 2 + 1)
def pO (P : Nat → Int32) (s held : Int32) : Nat → Int32
  | 0 => -4
  | i + 1 => if P (4 * i) = s then (if P (4 * i + 1) ≤ held then nI (4 * i) else pO P s held i) else pO P s held i
def kV (P : Nat → Int32) (s held v0 : Int32) (w : Nat) : Nat → Int32
  | 0 => v0
  | i + 1 => if P (4 * i) = s then (if P (4 * i + 1) ≤ held then P (4 * i + 2 + w) else kV P s held v0 w i) else kV P s held v0 w i
theorem pO_is (P : Nat → Int32) (s held : Int32) : ∀ n, pO P s held n = -4 ∨ ∃ i : Nat, i < n ∧ pO P s held n = nI (4 * i) := by
  intro n
  induction n with
  | zero => exact Or.inl rfl
  | succ n ih =>
    have ih2 : pO P s held n = -4 ∨ ∃ i : Nat, i < n + 1 ∧ pO P s held n = nI (4 * i) := by
      rcases ih with h | ⟨i, h1, h2⟩
      · exact Or.inl h
      · exact Or.inr ⟨i, by omega, h2⟩
    rw [pO]
    split
    · split
      · exact Or.inr ⟨n, by omega, rfl⟩
      · exact ih2
    · exact ih2
theorem kV_pO (P : Nat → Int32) (s held v0 : Int32) (w : Nat) : ∀ n, n ≤ 4 → kV P s held v0 w n = if pO P s held n = -4 then v0 else P ((pO P s held n).toNatClampNeg + 2 + w) := by
  intro n
  induction n with
  | zero => intro _; rfl
  | succ n ih =>
    intro hn
    rw [kV, pO]
    by_cases h1 : P (4 * n) = s
    · rw [if_pos h1, if_pos h1]
      by_cases h2 : P (4 * n + 1) ≤ held
      · rw [if_pos h2, if_pos h2, clampI (by omega), if_neg]
        intro q
        rcases (show n = 0 ∨ n = 1 ∨ n = 2 ∨ n = 3 by omega) with rfl | rfl | rfl | rfl <;> exact absurd q (by decide)
      · rw [if_neg h2, if_neg h2]; exact ih (by omega)
    · rw [if_neg h1, if_neg h1]; exact ih (by omega)
theorem kV_plV {K : KK} {P : Nat → Int32} {pn : Nat} (h : PR K P pn) {e : Nat} (he : e < 2) (held v0 : Int32) (w : Nat) (hw : w < 2) : ∀ i, i ≤ pn → kV P (nI e) held v0 w i = plV K (100 + 7 * e) held w v0 (cntS P e i) := by
  intro i
  induction i with
  | zero => intro _; rfl
  | succ i ih =>
    intro hi
    rw [kV, cntS]
    by_cases h1 : P (4 * i) = nI e
    · obtain ⟨a1, a2, a3⟩ := h.2.2.2 i e (by omega) he h1
      rw [if_pos h1, if_pos h1, plV, a1]
      by_cases h2 : P (4 * i + 1) ≤ held
      · rw [if_pos h2, if_pos h2]
        rcases (show w = 0 ∨ w = 1 by omega) with rfl | rfl
        · exact a2.symm
        · exact a3.symm
      · rw [if_neg h2, if_neg h2]; exact ih (by omega)
    · rw [if_neg h1, if_neg h1, Nat.add_zero]; exact ih (by omega)
/-- a player's kind (w 0), figure (w 1) in the class -/
def rol (K : KK) (P : Nat → Int32) (pn m p w : Nat) : Int32 := if gP K p 1 = nI 4 then kV P (gP K p 0) (nI (cntH K (gP K p 0) m)) (gP K p (1 + w)) w pn else gP K p (1 + w)
theorem rol_role {K : KK} {P : Nat → Int32} {pn m p : Nat} (h : PR K P pn) (hK : KR K m) (hp : p < m) (w : Nat) (hw : w < 2) : rol K P pn m p w = role K m p w := by
  obtain ⟨e, he, hs⟩ := hK.2.2.1 p hp
  rw [rol, role]
  split
  · rw [hs, clampI (by omega), (h.2.1 e he).1, clampI (by have := (h.2.1 e he).2; omega)]
    exact kV_plV h he _ _ w hw pn (Nat.le_refl _)
  · rfl
def plF (K : KK) (P : Nat → Int32) (pn m p : Nat) : Int32 := if gP K p 1 = nI 4 then pO P (gP K p 0) (nI (cntH K (gP K p 0) m)) pn else -4
theorem plF_no {K : KK} {P : Nat → Int32} {pn m p w : Nat} (hpn : pn ≤ 4) (h : plF K P pn m p = -4) : gP K p (1 + w) = rol K P pn m p w := by
  rw [rol]
  rw [plF] at h
  split
  · rename_i hk
    rw [if_pos hk] at h
    rw [kV_pO _ _ _ _ _ _ hpn, if_pos h]
  · rfl
theorem plF_yes {K : KK} {P : Nat → Int32} {pn m p : Nat} (h : ¬ plF K P pn m p = -4) : ∃ i : Nat, i < pn ∧ plF K P pn m p = nI (4 * i) := by
  rw [plF] at h ⊢
  split at h
  · rename_i hk
    rw [if_pos hk]
    rcases pO_is P (gP K p 0) (nI (cntH K (gP K p 0) m)) pn with e | e
    · exact absurd e h
    · exact e
  · exact absurd rfl h
theorem plF_at {K : KK} {P : Nat → Int32} {pn m p w i : Nat} (hpn : pn ≤ 4) (hi : i < pn) (e : plF K P pn m p = nI (4 * i)) : P (4 * i + (2 + w)) = rol K P pn m p w := by
  have hn : ¬ nI (4 * i) = -4 := by
    rcases (show i = 0 ∨ i = 1 ∨ i = 2 ∨ i = 3 by omega) with rfl | rfl | rfl | rfl <;> decide
  rw [plF] at e
  rw [rol]
  split
  · rename_i hk
    rw [if_pos hk] at e
    rw [kV_pO _ _ _ _ _ _ hpn, e, if_neg hn, clampI (by omega), show 4 * i + 2 + w = 4 * i + (2 + w) by omega]
  · rename_i hk
    rw [if_neg hk] at e
    exact absurd e.symm hn
set_option maxRecDepth 20000 in
set_option maxHeartbeats 4000000 in
theorem s4_planOf_loop (l : Launch) (d : Nat) (h : MH) (n w : Nat) (K : KK) (cl P : Nat → Int32) (pn : Nat) (hw : WoodAt h w K cl P pn) (p : Nat) (hp : p < 10) (hpn : pn ≤ 4) (hd : Int32) : ∀ (r i : Nat), i + r = pn → V l mX4_planOf d 30 [some (.ref w), some (.ref (w + 8 + p)), some (.int (pO P (gP K p 0) hd i)), some (.int hd), some (.int (nI (4 * i)))] [] h n 0 0 (Pv (pO P (gP K p 0) hd pn) h n) := by
  obtain ⟨hw0, ⟨gr, hgr, egr⟩, ⟨ru, hru, eru⟩, ⟨pq, hpf, epf⟩, hpl, ⟨fl, hfl, efl⟩, ⟨ca, hca, eca⟩, ⟨wa, hwa⟩, hpp, hhd⟩ := id hw
  intro r
  induction r with
  | zero =>
    intro i hi
    refine V.iload dX4_planOf_30 rfl ?_
    refine V.iconst (v := nI 4) dX4_planOf_32 (by decide) ?_
    refine V.aload_n dX4_planOf_33 rfl ?_
    refine V.getf dX4_planOf_34 fl_X4_55 hw0 rfl ?_
    refine V.imulN dX4_planOf_37 ?_
    refine V.icmp_geN (tgt := 77) dX4_planOf_38 (by decide) (by omega) (by omega) (fun _ => ?_) (fun q => absurd q (by omega))
    refine V.iload_n dX4_planOf_77 rfl ?_
    exact V.iretP (by exact dX4_planOf_78) rfl (by rw [show i = pn by omega]) rfl
  | succ r ih =>
    intro i hi
    refine V.iload dX4_planOf_30 rfl ?_
    refine V.iconst (v := nI 4) dX4_planOf_32 (by decide) ?_
    refine V.aload_n dX4_planOf_33 rfl ?_
    refine V.getf dX4_planOf_34 fl_X4_55 hw0 rfl ?_
    refine V.imulN dX4_planOf_37 ?_
    refine V.icmp_geN (tgt := 77) dX4_planOf_38 (by decide) (by omega) (by omega) (fun q => absurd q (by omega)) (fun _ => ?_)
    refine V.aload_n dX4_planOf_41 rfl ?_
    refine V.getf dX4_planOf_42 fl_X4_24 hw0 rfl ?_
    refine V.iload dX4_planOf_45 rfl ?_
    refine V.ialdN dX4_planOf_47 hpl (by omega) (by decide) ?_
    refine V.aload_n dX4_planOf_48 rfl ?_
    refine V.getf dX4_planOf_49 fl_X4_104 (hpp _ (by omega)) rfl ?_
    refine V.icmp_ne (tgt := 71) dX4_planOf_52 (by decide) (fun c52 => ?_) (fun c52 => ?_)
    · refine V.inc4 (v := nI (4 * (i + 1))) dX4_planOf_71 (by rw [show Int32.ofInt 4 = nI 4 by decide, nI_add, show 4 * i + 4 = 4 * (i + 1) by omega]) (by decide) rfl ?_
      refine V.goto (tgt := 30) dX4_planOf_74 (by decide) ?_
      exact V.ls (by (try simp only [← Int32.not_le, Classical.not_not] at c52 ⊢); simp only [pO, c52, not_true_eq_false, not_false_eq_true, if_true, if_false, decide_true, decide_false, Bool.and_true, Bool.and_false, Bool.true_and, Bool.false_and, Bool.or_true, Bool.or_false, Bool.true_or, Bool.false_or, Bool.not_true, Bool.not_false, and_true, and_false, true_and, false_and, or_true, or_false, true_or, false_or, bIt, bIf, Bool.false_eq_true, reduceCtorEq] <;> rfl) (ih (i + 1) (by omega))
    · refine V.iload_n dX4_planOf_55 rfl ?_
      refine V.aload_n dX4_planOf_56 rfl ?_
      refine V.getf dX4_planOf_57 fl_X4_24 hw0 rfl ?_
      refine V.iload dX4_planOf_60 rfl ?_
      refine V.iconst (v := nI 1) dX4_planOf_62 (by decide) ?_
      refine V.iaddN dX4_planOf_63 ?_
      refine V.ialdN dX4_planOf_64 hpl (by omega) (by decide) ?_
      refine V.icmp_lt (tgt := 71) dX4_planOf_65 (by decide) (fun c65 => ?_) (fun c65 => ?_)
      · refine V.inc4 (v := nI (4 * (i + 1))) dX4_planOf_71 (by rw [show Int32.ofInt 4 = nI 4 by decide, nI_add, show 4 * i + 4 = 4 * (i + 1) by omega]) (by decide) rfl ?_
        refine V.goto (tgt := 30) dX4_planOf_74 (by decide) ?_
        exact V.ls (by (try simp only [← Int32.not_le, Classical.not_not] at c52 c65 ⊢); simp only [pO, eq_true c52, c65, not_true_eq_false, not_false_eq_true, if_true, if_false, decide_true, decide_false, Bool.and_true, Bool.and_false, Bool.true_and, Bool.false_and, Bool.or_true, Bool.or_false, Bool.true_or, Bool.false_or, Bool.not_true, Bool.not_false, and_true, and_false, true_and, false_and, or_true, or_false, true_or, false_or, bIt, bIf, Bool.false_eq_true, reduceCtorEq] <;> rfl) (ih (i + 1) (by omega))
      · refine V.iload dX4_planOf_68 rfl ?_
        refine V.ist2 dX4_planOf_70 (by decide) rfl ?_
        refine V.inc4 (v := nI (4 * (i + 1))) dX4_planOf_71 (by rw [show Int32.ofInt 4 = nI 4 by decide, nI_add, show 4 * i + 4 = 4 * (i + 1) by omega]) (by decide) rfl ?_
        refine V.goto (tgt := 30) dX4_planOf_74 (by decide) ?_
        exact V.ls (by (try simp only [← Int32.not_le, Classical.not_not] at c52 c65 ⊢); simp only [pO, eq_true c52, c65, not_true_eq_false, not_false_eq_true, if_true, if_false, decide_true, decide_false, Bool.and_true, Bool.and_false, Bool.true_and, Bool.false_and, Bool.or_true, Bool.or_false, Bool.true_or, Bool.false_or, Bool.not_true, Bool.not_false, and_true, and_false, true_and, false_and, or_true, or_false, true_or, false_or, bIt, bIf, Bool.false_eq_true, reduceCtorEq] <;> rfl) (ih (i + 1) (by omega))
set_option maxRecDepth 20000 in
set_option maxHeartbeats 4000000 in
theorem s4_planOf (l : Launch) (d : Nat) (h : MH) (n w : Nat) (K : KK) (cl P : Nat → Int32) (pn : Nat) (hw : WoodAt h w K cl P pn) (p : Nat) (hp : p < 10) (m : Nat) (hm : K 90 = nI m) (hm10 : m ≤ 10) (hpn : pn ≤ 4) : Sp l mX4_planOf (d + 1) [.ref w, .ref (w + 8 + p)] h n 0 0 (Pv (plF K P pn m p) h n) := by
  obtain ⟨hw0, ⟨gr, hgr, egr⟩, ⟨ru, hru, eru⟩, ⟨pq, hpf, epf⟩, hpl, ⟨fl, hfl, efl⟩, ⟨ca, hca, eca⟩, ⟨wa, hwa⟩, hpp, hhd⟩ := id hw
  show V _ _ _ _ [some (.ref w), some (.ref (w + 8 + p)), none, none, none] _ _ _ _ _ _
  refine V.bipush (v := -4) dX4_planOf_0 (by decide) ?_
  refine V.ist2 dX4_planOf_2 (by decide) rfl ?_
  refine V.aload_n dX4_planOf_3 rfl ?_
  refine V.getf dX4_planOf_4 fl_X4_122 (hpp _ (by omega)) rfl ?_
  refine V.iconst (v := nI 4) dX4_planOf_7 (by decide) ?_
  refine V.icmp_ne (tgt := 77) dX4_planOf_8 (by decide) (fun c8 => ?_) (fun c8 => ?_)
  · refine V.iload_n dX4_planOf_77 rfl ?_
    exact V.iretP (by exact dX4_planOf_78) rfl (by first | rw [plF, if_neg c8] | (rw [plF, if_pos c8, show pn = 0 from pn0 hpn c15, pO])) rfl
  · refine V.aload_n dX4_planOf_11 rfl ?_
    refine V.getf dX4_planOf_12 fl_X4_55 hw0 rfl ?_
    refine V.if_le (tgt := 77) dX4_planOf_15 (by decide) (fun c15 => ?_) (fun c15 => ?_)
    · refine V.iload_n dX4_planOf_77 rfl ?_
      exact V.iretP (by exact dX4_planOf_78) rfl (by first | rw [plF, if_neg c8] | (rw [plF, if_pos c8, show pn = 0 from pn0 hpn c15, pO])) rfl
    · refine V.aload_n dX4_planOf_18 rfl ?_
      refine V.aload_n dX4_planOf_19 rfl ?_
      refine V.getf dX4_planOf_20 fl_X4_104 (hpp _ (by omega)) rfl ?_
      refine V.callVv [_] dX4_planOf_23 lk_X4_149 rfl (Nat.le_of_ble_eq_true rfl) (Nat.le_of_ble_eq_true rfl) hw0 rfl (s4_heldOf _ _ _ _ _ _ _ _ _ hw _ _ (by assumption) (by assumption)) ?_
      refine V.ist3 dX4_planOf_26 (by decide) rfl ?_
      refine V.iconst (v := nI 0) dX4_planOf_27 (by decide) ?_
      refine V.ist4 dX4_planOf_28 (by decide) rfl ?_
      exact V.qv2 (s4_planOf_loop l _ h n w K cl P pn hw p hp hpn _ pn 0 (by omega)) (by rw [plF, if_pos c8])
set_option maxRecDepth 20000 in
set_option maxHeartbeats 4000000 in
theorem s4_kindOf (l : Launch) (d : Nat) (h : MH) (n w : Nat) (K : KK) (cl P : Nat → Int32) (pn : Nat) (hw : WoodAt h w K cl P pn) (p : Nat) (hp : p < 10) (m : Nat) (hm : K 90 = nI m) (hm10 : m ≤ 10) (hpn : pn ≤ 4) : Sp l mX4_kindOf (d + 2) [.ref w, .ref (w + 8 + p)] h n 0 0 (Pv (rol K P pn m p 0) h n) := by
  obtain ⟨hw0, ⟨gr, hgr, egr⟩, ⟨ru, hru, eru⟩, ⟨pq, hpf, epf⟩, hpl, ⟨fl, hfl, efl⟩, ⟨ca, hca, eca⟩, ⟨wa, hwa⟩, hpp, hhd⟩ := id hw
  show V _ _ _ _ [some (.ref w), some (.ref (w + 8 + p)), none] _ _ _ _ _ _
  refine V.aload_n dX4_kindOf_0 rfl ?_
  refine V.aload_n dX4_kindOf_1 rfl ?_
  refine V.callVv [_] dX4_kindOf_2 lk_X4_152 rfl (Nat.le_of_ble_eq_true rfl) (Nat.le_of_ble_eq_true rfl) hw0 rfl (s4_planOf _ _ _ _ _ _ _ _ _ hw _ (by omega) _ hm hm10 hpn) ?_
  refine V.ist2 dX4_kindOf_5 (by decide) rfl ?_
  refine V.iload_n dX4_kindOf_6 rfl ?_
  refine V.bipush (v := -4) dX4_kindOf_7 (by decide) ?_
  refine V.icmp_ne (tgt := 19) dX4_kindOf_9 (by decide) (fun c9 => ?_) (fun c9 => ?_)
  · obtain ⟨i, hi, e⟩ := plF_yes (K := K) (m := m) (p := p) c9
    rw [e]
    refine V.aload_n dX4_kindOf_19 rfl ?_
    refine V.getf dX4_kindOf_20 fl_X4_24 hw0 rfl ?_
    refine V.iload_n dX4_kindOf_23 rfl ?_
    refine V.iconst (v := nI 2) dX4_kindOf_24 (by decide) ?_
    refine V.iaddN dX4_kindOf_25 ?_
    refine V.ialdN dX4_kindOf_26 hpl (by omega) (by decide) ?_
    exact V.iretP (by exact dX4_kindOf_27) rfl (plF_at (w := 0) hpn hi e) rfl
  · refine V.aload_n dX4_kindOf_12 rfl ?_
    refine V.getf dX4_kindOf_13 fl_X4_122 (hpp _ (by omega)) rfl ?_
    refine V.goto (tgt := 27) dX4_kindOf_16 (by decide) ?_
    exact V.iretP (by exact dX4_kindOf_27) rfl (plF_no (w := 0) hpn c9) rfl
set_option maxRecDepth 20000 in
set_option maxHeartbeats 4000000 in
theorem s4_figureOf (l : Launch) (d : Nat) (h : MH) (n w : Nat) (K : KK) (cl P : Nat → Int32) (pn : Nat) (hw : WoodAt h w K cl P pn) (p : Nat) (hp : p < 10) (m : Nat) (hm : K 90 = nI m) (hm10 : m ≤ 10) (hpn : pn ≤ 4) : Sp l mX4_figureOf (d + 2) [.ref w, .ref (w + 8 + p)] h n 0 0 (Pv (rol K P pn m p 1) h n) := by
  obtain ⟨hw0, ⟨gr, hgr, egr⟩, ⟨ru, hru, eru⟩, ⟨pq, hpf, epf⟩, hpl, ⟨fl, hfl, efl⟩, ⟨ca, hca, eca⟩, ⟨wa, hwa⟩, hpp, hhd⟩ := id hw
  show V _ _ _ _ [some (.ref w), some (.ref (w + 8 + p)), none] _ _ _ _ _ _
  refine V.aload_n dX4_figureOf_0 rfl ?_
  refine V.aload_n dX4_figureOf_1 rfl ?_
  refine V.callVv [_] dX4_figureOf_2 lk_X4_152 rfl (Nat.le_of_ble_eq_true rfl) (Nat.le_of_ble_eq_true rfl) hw0 rfl (s4_planOf _ _ _ _ _ _ _ _ _ hw _ (by omega) _ hm hm10 hpn) ?_
  refine V.ist2 dX4_figureOf_5 (by decide) rfl ?_
  refine V.iload_n dX4_figureOf_6 rfl ?_
  refine V.bipush (v := -4) dX4_figureOf_7 (by decide) ?_
  refine V.icmp_ne (tgt := 19) dX4_figureOf_9 (by decide) (fun c9 => ?_) (fun c9 => ?_)
  · obtain ⟨i, hi, e⟩ := plF_yes (K := K) (m := m) (p := p) c9
    rw [e]
    refine V.aload_n dX4_figureOf_19 rfl ?_
    refine V.getf dX4_figureOf_20 fl_X4_24 hw0 rfl ?_
    refine V.iload_n dX4_figureOf_23 rfl ?_
    refine V.iconst (v := nI 3) dX4_figureOf_24 (by decide) ?_
    refine V.iaddN dX4_figureOf_25 ?_
    refine V.ialdN dX4_figureOf_26 hpl (by omega) (by decide) ?_
    exact V.iretP (by exact dX4_figureOf_27) rfl (plF_at (w := 1) hpn hi e) rfl
  · refine V.aload_n dX4_figureOf_12 rfl ?_
    refine V.getf dX4_figureOf_13 fl_X4_125 (hpp _ (by omega)) rfl ?_
    refine V.goto (tgt := 27) dX4_figureOf_16 (by decide) ?_
    exact V.iretP (by exact dX4_figureOf_27) rfl (plF_no (w := 1) hpn c9) rfl
