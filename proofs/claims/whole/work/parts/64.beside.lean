/-- whether it holds of one below a number -/
def eB (f : Nat → Bool) : Nat → Bool
  | 0 => false
  | k + 1 => eB f k || f k
theorem eB_iff (f : Nat → Bool) : ∀ m, eB f m = true ↔ ∃ i, i < m ∧ f i = true := by
  intro m
  induction m with
  | zero => exact ⟨fun h => absurd (show false = true from h) (by decide), fun ⟨i, hi, _⟩ => absurd hi (by omega)⟩
  | succ m ih =>
    rw [eB, Bool.or_eq_true, ih]
    constructor
    · rintro (⟨i, hi, h⟩ | h)
      · exact ⟨i, by omega, h⟩
      · exact ⟨m, by omega, h⟩
    · rintro ⟨i, hi, h⟩
      by_cases q : i = m
      · subst q; exact Or.inr h
      · exact Or.inl ⟨i, by omega, h⟩
/-- the cell beside: the class's ways, the reference's ways -/
def cbs (c w : Nat) : Option Nat := if w = 0 then (if c % 12 = 0 then none else some (c - 1)) else if w = 1 then (if c % 12 = 11 then none else some (c + 1)) else if w = 2 then (if c < 12 then none else some (c - 12)) else (if 72 ≤ c then none else some (c + 12))
def mbs (c w : Nat) : Option Nat := if w = 0 then (if c % 12 = 11 then none else some (c + 1)) else if w = 1 then (if c % 12 = 0 then none else some (c - 1)) else if w = 2 then (if 72 ≤ c then none else some (c + 12)) else (if c < 12 then none else some (c - 12))
theorem cbs_lt : ∀ c, c < 84 → ∀ w, w < 4 → ∀ j, cbs c w = some j → j < 84 := by
  intro c hc w hw j h
  unfold cbs at h
  split at h
  · split at h
    · cases h
    · have := Option.some.inj h; omega
  · split at h
    · split at h
      · cases h
      · have := Option.some.inj h; omega
    · split at h
      · split at h
        · cases h
        · have := Option.some.inj h; omega
      · split at h
        · cases h
        · have := Option.some.inj h; omega
def adjM (c j : Nat) : Bool := eB (fun w => decide (mbs c w = some j)) 4
def adjC (c j : Nat) : Bool := eB (fun w => decide (cbs c w = some j)) 4
theorem mbs_cbs (c : Nat) : mbs c 0 = cbs c 1 ∧ mbs c 1 = cbs c 0 ∧ mbs c 2 = cbs c 3 ∧ mbs c 3 = cbs c 2 := ⟨rfl, rfl, rfl, rfl⟩
theorem adj_MC (c j : Nat) : adjM c j = adjC c j := by
  show ((((false || decide (mbs c 0 = some j)) || decide (mbs c 1 = some j)) || decide (mbs c 2 = some j)) || decide (mbs c 3 = some j)) = ((((false || decide (cbs c 0 = some j)) || decide (cbs c 1 = some j)) || decide (cbs c 2 = some j)) || decide (cbs c 3 = some j))
  obtain ⟨h0, h1, h2, h3⟩ := mbs_cbs c
  rw [h0, h1, h2, h3]
  cases decide (cbs c 0 = some j) <;> cases decide (cbs c 1 = some j) <;> cases decide (cbs c 2 = some j) <;> cases decide (cbs c 3 = some j) <;> rfl
theorem adj_iff (c j : Nat) : adjC c j = true ↔ ∃ w, w < 4 ∧ cbs c w = some j := by
  rw [adjC, eB_iff]
  constructor
  · rintro ⟨w, hw, h⟩; exact ⟨w, hw, of_decide_eq_true h⟩
  · rintro ⟨w, hw, h⟩; exact ⟨w, hw, decide_eq_true h⟩
theorem adj_sym1 {c j : Nat} (hc : c < 84) (h : adjC c j = true) : adjC j c = true := by
  obtain ⟨w, hw, e⟩ := (adj_iff c j).mp h
  rw [adj_iff]
  unfold cbs at e
  split at e
  · split at e
    · cases e
    · have := Option.some.inj e
      refine ⟨1, by omega, ?_⟩
      unfold cbs
      rw [if_neg (by omega), if_pos rfl, if_neg (by omega)]
      exact congrArg some (by omega)
  · split at e
    · split at e
      · cases e
      · have := Option.some.inj e
        refine ⟨0, by omega, ?_⟩
        unfold cbs
        rw [if_pos rfl, if_neg (by omega)]
        exact congrArg some (by omega)
    · split at e
      · split at e
        · cases e
        · have := Option.some.inj e
          refine ⟨3, by omega, ?_⟩
          unfold cbs
          rw [if_neg (by omega), if_neg (by omega), if_neg (by omega), if_neg (by omega)]
          exact congrArg some (by omega)
      · split at e
        · cases e
        · have := Option.some.inj e
          refine ⟨2, by omega, ?_⟩
          unfold cbs
          rw [if_neg (by omega), if_neg (by omega), if_pos rfl, if_neg (by omega)]
          exact congrArg some (by omega)
theorem adj_lt {c j : Nat} (hc : c < 84) (h : adjC c j = true) : j < 84 := by
  obtain ⟨w, hw, e⟩ := (adj_iff c j).mp h
  exact cbs_lt c hc w hw j e
theorem adj_sym {c j : Nat} (hc : c < 84) (hj : j < 84) : adjC c j = adjC j c := by
  cases q : adjC c j with
  | true => exact (adj_sym1 hc q).symm
  | false =>
    cases y : adjC j c with
    | false => rfl
    | true => rw [adj_sym1 hj y] at q; cases q
set_option maxRecDepth 20000 in
set_option maxHeartbeats 4000000 in
theorem s2_beside (l : Launch) (d : Nat) (h : MH) (n c w : Nat) (hc : c < 84) (hw : w < 4) : Sp l mX2_beside d [.int (nI c), .int (nI w)] h n 0 0 (Pv (gI (cbs c w)) h n) := by
  show V _ _ _ _ [some (.int (nI c)), some (.int (nI w)), none] _ _ _ _ _ _
  refine V.iload_n dX2_beside_0 rfl ?_
  refine V.bipush (v := nI 12) dX2_beside_1 (by decide) ?_
  refine V.iremN dX2_beside_3 (by omega) (by omega) (by omega) ?_
  refine V.ist2 dX2_beside_4 (by decide) rfl ?_
  refine V.iload_n dX2_beside_5 rfl ?_
  rcases (show w = 0 ∨ w = 1 ∨ w = 2 ∨ w = 3 by omega) with rfl | rfl | rfl | rfl
  · refine V.tableIn (off := 26) (tgt := 32) dX2_beside_6 (by decide) (by decide) rfl (by decide) ?_
    refine V.iload_n dX2_beside_32 rfl ?_
    refine V.if_le (tgt := 42) dX2_beside_33 (by decide) (fun c33 => ?_) (fun c33 => ?_)
    · have hz : c % 12 = 0 := by
        have := (nI_leI (a := c % 12) (b := 0) (by omega) (by omega)).mp c33
        omega
      refine V.bipush (v := -4) dX2_beside_42 (by decide) ?_
      exact V.iretP (by exact dX2_beside_44) rfl (by simp only [cbs, hz, if_true]; rfl) rfl
    · have hz : ¬ c % 12 = 0 := fun y => c33 (by rw [y]; decide)
      refine V.iload_n dX2_beside_36 rfl ?_
      refine V.iconst (v := nI 1) dX2_beside_37 (by decide) ?_
      refine V.isubN dX2_beside_38 (by omega) ?_
      refine V.goto (tgt := 44) dX2_beside_39 (by decide) ?_
      exact V.iretP (by exact dX2_beside_44) rfl (by first | (simp only [cbs, hz, if_true, if_false]; rfl) | (show _ = gI (cbs c _); unfold cbs; first | (rw [if_neg (by omega), if_pos rfl, if_pos (by omega)]; rfl) | (rw [if_neg (by omega), if_pos rfl, if_neg (by omega)]; rfl) | (rw [if_neg (by omega), if_neg (by omega), if_pos rfl, if_pos (by omega)]; rfl) | (rw [if_neg (by omega), if_neg (by omega), if_pos rfl, if_neg (by omega)]; rfl) | (rw [if_neg (by omega), if_neg (by omega), if_neg (by omega), if_pos (by omega)]; rfl) | (rw [if_neg (by omega), if_neg (by omega), if_neg (by omega), if_neg (by omega)]; rfl))) rfl
  · refine V.tableIn (off := 39) (tgt := 45) dX2_beside_6 (by decide) (by decide) rfl (by decide) ?_
    refine V.iload_n dX2_beside_45 rfl ?_
    refine V.bipush (v := nI 11) dX2_beside_46 (by decide) ?_
    refine V.icmp_geN (tgt := 57) dX2_beside_48 (by decide) (by omega) (by omega) (fun c48 => ?_) (fun c48 => ?_)
    · refine V.bipush (v := -4) dX2_beside_57 (by decide) ?_
      exact V.iretP (by exact dX2_beside_59) rfl (by first | (simp only [cbs, hz, if_true, if_false]; rfl) | (show _ = gI (cbs c _); unfold cbs; first | (rw [if_neg (by omega), if_pos rfl, if_pos (by omega)]; rfl) | (rw [if_neg (by omega), if_pos rfl, if_neg (by omega)]; rfl) | (rw [if_neg (by omega), if_neg (by omega), if_pos rfl, if_pos (by omega)]; rfl) | (rw [if_neg (by omega), if_neg (by omega), if_pos rfl, if_neg (by omega)]; rfl) | (rw [if_neg (by omega), if_neg (by omega), if_neg (by omega), if_pos (by omega)]; rfl) | (rw [if_neg (by omega), if_neg (by omega), if_neg (by omega), if_neg (by omega)]; rfl))) rfl
    · refine V.iload_n dX2_beside_51 rfl ?_
      refine V.iconst (v := nI 1) dX2_beside_52 (by decide) ?_
      refine V.iaddN dX2_beside_53 ?_
      refine V.goto (tgt := 59) dX2_beside_54 (by decide) ?_
      exact V.iretP (by exact dX2_beside_59) rfl (by first | (simp only [cbs, hz, if_true, if_false]; rfl) | (show _ = gI (cbs c _); unfold cbs; first | (rw [if_neg (by omega), if_pos rfl, if_pos (by omega)]; rfl) | (rw [if_neg (by omega), if_pos rfl, if_neg (by omega)]; rfl) | (rw [if_neg (by omega), if_neg (by omega), if_pos rfl, if_pos (by omega)]; rfl) | (rw [if_neg (by omega), if_neg (by omega), if_pos rfl, if_neg (by omega)]; rfl) | (rw [if_neg (by omega), if_neg (by omega), if_neg (by omega), if_pos (by omega)]; rfl) | (rw [if_neg (by omega), if_neg (by omega), if_neg (by omega), if_neg (by omega)]; rfl))) rfl
  · refine V.tableIn (off := 54) (tgt := 60) dX2_beside_6 (by decide) (by decide) rfl (by decide) ?_
    refine V.iload_n dX2_beside_60 rfl ?_
    refine V.bipush (v := nI 12) dX2_beside_61 (by decide) ?_
    refine V.icmp_ltN (tgt := 73) dX2_beside_63 (by decide) (by omega) (by omega) (fun c63 => ?_) (fun c63 => ?_)
    · refine V.bipush (v := -4) dX2_beside_73 (by decide) ?_
      exact V.iretP (by exact dX2_beside_75) rfl (by first | (simp only [cbs, hz, if_true, if_false]; rfl) | (show _ = gI (cbs c _); unfold cbs; first | (rw [if_neg (by omega), if_pos rfl, if_pos (by omega)]; rfl) | (rw [if_neg (by omega), if_pos rfl, if_neg (by omega)]; rfl) | (rw [if_neg (by omega), if_neg (by omega), if_pos rfl, if_pos (by omega)]; rfl) | (rw [if_neg (by omega), if_neg (by omega), if_pos rfl, if_neg (by omega)]; rfl) | (rw [if_neg (by omega), if_neg (by omega), if_neg (by omega), if_pos (by omega)]; rfl) | (rw [if_neg (by omega), if_neg (by omega), if_neg (by omega), if_neg (by omega)]; rfl))) rfl
    · refine V.iload_n dX2_beside_66 rfl ?_
      refine V.bipush (v := nI 12) dX2_beside_67 (by decide) ?_
      refine V.isubN dX2_beside_69 (by omega) ?_
      refine V.goto (tgt := 75) dX2_beside_70 (by decide) ?_
      exact V.iretP (by exact dX2_beside_75) rfl (by first | (simp only [cbs, hz, if_true, if_false]; rfl) | (show _ = gI (cbs c _); unfold cbs; first | (rw [if_neg (by omega), if_pos rfl, if_pos (by omega)]; rfl) | (rw [if_neg (by omega), if_pos rfl, if_neg (by omega)]; rfl) | (rw [if_neg (by omega), if_neg (by omega), if_pos rfl, if_pos (by omega)]; rfl) | (rw [if_neg (by omega), if_neg (by omega), if_pos rfl, if_neg (by omega)]; rfl) | (rw [if_neg (by omega), if_neg (by omega), if_neg (by omega), if_pos (by omega)]; rfl) | (rw [if_neg (by omega), if_neg (by omega), if_neg (by omega), if_neg (by omega)]; rfl))) rfl
  · refine V.tableOut (tgt := 76) dX2_beside_6 (by decide) (by decide) ?_
    refine V.iload_n dX2_beside_76 rfl ?_
    refine V.bipush (v := nI 72) dX2_beside_77 (by decide) ?_
    refine V.icmp_geN (tgt := 89) dX2_beside_79 (by decide) (by omega) (by omega) (fun c79 => ?_) (fun c79 => ?_)
    · refine V.bipush (v := -4) dX2_beside_89 (by decide) ?_
      exact V.iretP (by exact dX2_beside_91) rfl (by first | (simp only [cbs, hz, if_true, if_false]; rfl) | (show _ = gI (cbs c _); unfold cbs; first | (rw [if_neg (by omega), if_pos rfl, if_pos (by omega)]; rfl) | (rw [if_neg (by omega), if_pos rfl, if_neg (by omega)]; rfl) | (rw [if_neg (by omega), if_neg (by omega), if_pos rfl, if_pos (by omega)]; rfl) | (rw [if_neg (by omega), if_neg (by omega), if_pos rfl, if_neg (by omega)]; rfl) | (rw [if_neg (by omega), if_neg (by omega), if_neg (by omega), if_pos (by omega)]; rfl) | (rw [if_neg (by omega), if_neg (by omega), if_neg (by omega), if_neg (by omega)]; rfl))) rfl
    · refine V.iload_n dX2_beside_82 rfl ?_
      refine V.bipush (v := nI 12) dX2_beside_83 (by decide) ?_
      refine V.iaddN dX2_beside_85 ?_
      refine V.goto (tgt := 91) dX2_beside_86 (by decide) ?_
      exact V.iretP (by exact dX2_beside_91) rfl (by first | (simp only [cbs, hz, if_true, if_false]; rfl) | (show _ = gI (cbs c _); unfold cbs; first | (rw [if_neg (by omega), if_pos rfl, if_pos (by omega)]; rfl) | (rw [if_neg (by omega), if_pos rfl, if_neg (by omega)]; rfl) | (rw [if_neg (by omega), if_neg (by omega), if_pos rfl, if_pos (by omega)]; rfl) | (rw [if_neg (by omega), if_neg (by omega), if_pos rfl, if_neg (by omega)]; rfl) | (rw [if_neg (by omega), if_neg (by omega), if_neg (by omega), if_pos (by omega)]; rfl) | (rw [if_neg (by omega), if_neg (by omega), if_neg (by omega), if_neg (by omega)]; rfl))) rfl
theorem bs_dec : ∀ c, c < 84 → (wi (nI (c % 12) + nI 1) (nI 0) (nI 11) = decide (c % 12 ≠ 11)) ∧ (wi (nI (c % 12) + -1) (nI 0) (nI 11) = decide (c % 12 ≠ 0)) ∧ wi (nI (c % 12) + nI 0) (nI 0) (nI 11) = true ∧ (wi (nI (c / 12) + nI 1) (nI 0) (nI 6) = decide (c < 72)) ∧ (wi (nI (c / 12) + -1) (nI 0) (nI 6) = decide (12 ≤ c)) ∧ wi (nI (c / 12) + nI 0) (nI 0) (nI 6) = true ∧ nI 12 * (nI (c / 12) + nI 0) + (nI (c % 12) + nI 1) = nI (c + 1) ∧ (1 ≤ c → nI 12 * (nI (c / 12) + nI 0) + (nI (c % 12) + -1) = nI (c - 1)) ∧ nI 12 * (nI (c / 12) + nI 1) + (nI (c % 12) + nI 0) = nI (c + 12) ∧ (12 ≤ c → nI 12 * (nI (c / 12) + -1) + (nI (c % 12) + nI 0) = nI (c - 12)) := by decide +kernel
set_option maxRecDepth 20000 in
set_option maxHeartbeats 4000000 in
theorem s6_beside (l : Launch) (d : Nat) (h : MH) (n c w : Nat) (hc : c < 84) (hw : w < 4) : Sp l mX6_beside (d + 1) [.int (nI c), .int (nI w)] h n 0 0 (Pv (gI (mbs c w)) h n) := by
  show V _ _ _ _ [some (.int (nI c)), some (.int (nI w)), none, none] _ _ _ _ _ _
  obtain ⟨e1, e2, e3, e4, e5, e6, v1, v2, v3, v4⟩ := bs_dec c hc
  rcases (show w = 0 ∨ w = 1 ∨ w = 2 ∨ w = 3 by omega) with rfl | rfl | rfl | rfl
  · refine V.iload_n dX6_beside_0 rfl ?_
    refine V.bipush (v := nI 12) dX6_beside_1 (by decide) ?_
    refine V.iremN dX6_beside_3 (by omega) (by omega) (by omega) ?_
    refine V.iload_n dX6_beside_4 rfl ?_
    refine V.if_ne (tgt := 12) dX6_beside_5 (by decide) (fun q => absurd q (by decide)) (fun _ => ?_)
    refine V.iconst (v := nI 1) dX6_beside_8 (by decide) ?_
    refine V.goto (tgt := 22) dX6_beside_9 (by decide) ?_
    refine V.iadd dX6_beside_22 ?_
    refine V.ist2 dX6_beside_23 (by decide) rfl ?_
    refine V.iload_n dX6_beside_24 rfl ?_
    refine V.bipush (v := nI 12) dX6_beside_25 (by decide) ?_
    refine V.idivN dX6_beside_27 (by omega) (by omega) (by omega) ?_
    refine V.iload_n dX6_beside_28 rfl ?_
    refine V.iconst (v := nI 2) dX6_beside_29 (by decide) ?_
    refine V.icmp_ne (tgt := 37) dX6_beside_30 (by decide) (fun _ => ?_) (fun q => absurd q (by decide))
    refine V.iload_n dX6_beside_37 rfl ?_
    refine V.iconst (v := nI 3) dX6_beside_38 (by decide) ?_
    refine V.icmp_ne (tgt := 46) dX6_beside_39 (by decide) (fun _ => ?_) (fun q => absurd q (by decide))
    refine V.iconst (v := nI 0) dX6_beside_46 (by decide) ?_
    refine V.iadd dX6_beside_47 ?_
    refine V.ist3 dX6_beside_48 (by decide) rfl ?_
    refine V.iload_n dX6_beside_49 rfl ?_
    refine V.i2l dX6_beside_50 ?_
    refine V.lconst (v := 0) dX6_beside_51 (by decide) ?_
    refine V.ldc2 dX6_beside_52 cn_X6_204 ?_
    refine V.callSv [_, _, _] dX6_beside_55 lk_X6_62 rfl (Nat.le_of_ble_eq_true rfl) (Nat.le_of_ble_eq_true rfl) (s6_isInC _ _ _ (nI 0) (nI 11) (by decide) (by decide) _ _) ?_
    rw [e1]
    refine V.if_eqB (tgt := 82) dX6_beside_58 (by decide) (fun c58 => ?_) (fun c58 => ?_)
    · refine V.bipush (v := -4) dX6_beside_82 (by decide) ?_
      exact V.iretP (by exact dX6_beside_84) rfl (by have hz := Classical.not_not.mp (of_decide_eq_false c58); show _ = gI (mbs c 0); unfold mbs; rw [if_pos rfl, if_pos hz]; rfl) rfl
    · refine V.iload_n dX6_beside_61 rfl ?_
      refine V.i2l dX6_beside_62 ?_
      refine V.lconst (v := 0) dX6_beside_63 (by decide) ?_
      refine V.ldc2 dX6_beside_64 cn_X6_206 ?_
      refine V.callSv [_, _, _] dX6_beside_67 lk_X6_62 rfl (Nat.le_of_ble_eq_true rfl) (Nat.le_of_ble_eq_true rfl) (s6_isInC _ _ _ (nI 0) (nI 6) (by decide) (by decide) _ _) ?_
      rw [e6]
      refine V.if_eqB (tgt := 82) dX6_beside_70 (by decide) (fun c70 => ?_) (fun c70 => ?_)
      · refine V.bipush (v := -4) dX6_beside_82 (by decide) ?_
        exact V.iretP (by exact dX6_beside_84) rfl (by exact absurd c70 (by decide)) rfl
      · refine V.bipush (v := nI 12) dX6_beside_73 (by decide) ?_
        refine V.iload_n dX6_beside_75 rfl ?_
        refine V.imul dX6_beside_76 ?_
        refine V.iload_n dX6_beside_77 rfl ?_
        refine V.iadd dX6_beside_78 ?_
        refine V.goto (tgt := 84) dX6_beside_79 (by decide) ?_
        exact V.iretP (by exact dX6_beside_84) rfl (by have hz := of_decide_eq_true c58; rw [v1]; show _ = gI (mbs c 0); unfold mbs; rw [if_pos rfl, if_neg hz]; rfl) rfl
  · refine V.iload_n dX6_beside_0 rfl ?_
    refine V.bipush (v := nI 12) dX6_beside_1 (by decide) ?_
    refine V.iremN dX6_beside_3 (by omega) (by omega) (by omega) ?_
    refine V.iload_n dX6_beside_4 rfl ?_
    refine V.if_ne (tgt := 12) dX6_beside_5 (by decide) (fun _ => ?_) (fun q => absurd q (by decide))
    refine V.iload_n dX6_beside_12 rfl ?_
    refine V.iconst (v := nI 1) dX6_beside_13 (by decide) ?_
    refine V.icmp_ne (tgt := 21) dX6_beside_14 (by decide) (fun q => absurd q (by decide)) (fun _ => ?_)
    refine V.iconst (v := -1) dX6_beside_17 (by decide) ?_
    refine V.goto (tgt := 22) dX6_beside_18 (by decide) ?_
    refine V.iadd dX6_beside_22 ?_
    refine V.ist2 dX6_beside_23 (by decide) rfl ?_
    refine V.iload_n dX6_beside_24 rfl ?_
    refine V.bipush (v := nI 12) dX6_beside_25 (by decide) ?_
    refine V.idivN dX6_beside_27 (by omega) (by omega) (by omega) ?_
    refine V.iload_n dX6_beside_28 rfl ?_
    refine V.iconst (v := nI 2) dX6_beside_29 (by decide) ?_
    refine V.icmp_ne (tgt := 37) dX6_beside_30 (by decide) (fun _ => ?_) (fun q => absurd q (by decide))
    refine V.iload_n dX6_beside_37 rfl ?_
    refine V.iconst (v := nI 3) dX6_beside_38 (by decide) ?_
    refine V.icmp_ne (tgt := 46) dX6_beside_39 (by decide) (fun _ => ?_) (fun q => absurd q (by decide))
    refine V.iconst (v := nI 0) dX6_beside_46 (by decide) ?_
    refine V.iadd dX6_beside_47 ?_
    refine V.ist3 dX6_beside_48 (by decide) rfl ?_
    refine V.iload_n dX6_beside_49 rfl ?_
    refine V.i2l dX6_beside_50 ?_
    refine V.lconst (v := 0) dX6_beside_51 (by decide) ?_
    refine V.ldc2 dX6_beside_52 cn_X6_204 ?_
    refine V.callSv [_, _, _] dX6_beside_55 lk_X6_62 rfl (Nat.le_of_ble_eq_true rfl) (Nat.le_of_ble_eq_true rfl) (s6_isInC _ _ _ (nI 0) (nI 11) (by decide) (by decide) _ _) ?_
    rw [e2]
    refine V.if_eqB (tgt := 82) dX6_beside_58 (by decide) (fun c58 => ?_) (fun c58 => ?_)
    · refine V.bipush (v := -4) dX6_beside_82 (by decide) ?_
      exact V.iretP (by exact dX6_beside_84) rfl (by have hz := Classical.not_not.mp (of_decide_eq_false c58); show _ = gI (mbs c 1); unfold mbs; rw [if_neg (by omega), if_pos rfl, if_pos hz]; rfl) rfl
    · refine V.iload_n dX6_beside_61 rfl ?_
      refine V.i2l dX6_beside_62 ?_
      refine V.lconst (v := 0) dX6_beside_63 (by decide) ?_
      refine V.ldc2 dX6_beside_64 cn_X6_206 ?_
      refine V.callSv [_, _, _] dX6_beside_67 lk_X6_62 rfl (Nat.le_of_ble_eq_true rfl) (Nat.le_of_ble_eq_true rfl) (s6_isInC _ _ _ (nI 0) (nI 6) (by decide) (by decide) _ _) ?_
      rw [e6]
      refine V.if_eqB (tgt := 82) dX6_beside_70 (by decide) (fun c70 => ?_) (fun c70 => ?_)
      · refine V.bipush (v := -4) dX6_beside_82 (by decide) ?_
        exact V.iretP (by exact dX6_beside_84) rfl (by exact absurd c70 (by decide)) rfl
      · refine V.bipush (v := nI 12) dX6_beside_73 (by decide) ?_
        refine V.iload_n dX6_beside_75 rfl ?_
        refine V.imul dX6_beside_76 ?_
        refine V.iload_n dX6_beside_77 rfl ?_
        refine V.iadd dX6_beside_78 ?_
        refine V.goto (tgt := 84) dX6_beside_79 (by decide) ?_
        exact V.iretP (by exact dX6_beside_84) rfl (by have hz := of_decide_eq_true c58; rw [v2 (by omega)]; show _ = gI (mbs c 1); unfold mbs; rw [if_neg (by omega), if_pos rfl, if_neg hz]; rfl) rfl
  · refine V.iload_n dX6_beside_0 rfl ?_
    refine V.bipush (v := nI 12) dX6_beside_1 (by decide) ?_
    refine V.iremN dX6_beside_3 (by omega) (by omega) (by omega) ?_
    refine V.iload_n dX6_beside_4 rfl ?_
    refine V.if_ne (tgt := 12) dX6_beside_5 (by decide) (fun _ => ?_) (fun q => absurd q (by decide))
    refine V.iload_n dX6_beside_12 rfl ?_
    refine V.iconst (v := nI 1) dX6_beside_13 (by decide) ?_
    refine V.icmp_ne (tgt := 21) dX6_beside_14 (by decide) (fun _ => ?_) (fun q => absurd q (by decide))
    refine V.iconst (v := nI 0) dX6_beside_21 (by decide) ?_
    refine V.iadd dX6_beside_22 ?_
    refine V.ist2 dX6_beside_23 (by decide) rfl ?_
    refine V.iload_n dX6_beside_24 rfl ?_
    refine V.bipush (v := nI 12) dX6_beside_25 (by decide) ?_
    refine V.idivN dX6_beside_27 (by omega) (by omega) (by omega) ?_
    refine V.iload_n dX6_beside_28 rfl ?_
    refine V.iconst (v := nI 2) dX6_beside_29 (by decide) ?_
    refine V.icmp_ne (tgt := 37) dX6_beside_30 (by decide) (fun q => absurd q (by decide)) (fun _ => ?_)
    refine V.iconst (v := nI 1) dX6_beside_33 (by decide) ?_
    refine V.goto (tgt := 47) dX6_beside_34 (by decide) ?_
    refine V.iadd dX6_beside_47 ?_
    refine V.ist3 dX6_beside_48 (by decide) rfl ?_
    refine V.iload_n dX6_beside_49 rfl ?_
    refine V.i2l dX6_beside_50 ?_
    refine V.lconst (v := 0) dX6_beside_51 (by decide) ?_
    refine V.ldc2 dX6_beside_52 cn_X6_204 ?_
    refine V.callSv [_, _, _] dX6_beside_55 lk_X6_62 rfl (Nat.le_of_ble_eq_true rfl) (Nat.le_of_ble_eq_true rfl) (s6_isInC _ _ _ (nI 0) (nI 11) (by decide) (by decide) _ _) ?_
    rw [e3]
    refine V.if_eqB (tgt := 82) dX6_beside_58 (by decide) (fun c58 => ?_) (fun c58 => ?_)
    · refine V.bipush (v := -4) dX6_beside_82 (by decide) ?_
      exact V.iretP (by exact dX6_beside_84) rfl (by exact absurd c58 (by decide)) rfl
    · refine V.iload_n dX6_beside_61 rfl ?_
      refine V.i2l dX6_beside_62 ?_
      refine V.lconst (v := 0) dX6_beside_63 (by decide) ?_
      refine V.ldc2 dX6_beside_64 cn_X6_206 ?_
      refine V.callSv [_, _, _] dX6_beside_67 lk_X6_62 rfl (Nat.le_of_ble_eq_true rfl) (Nat.le_of_ble_eq_true rfl) (s6_isInC _ _ _ (nI 0) (nI 6) (by decide) (by decide) _ _) ?_
      rw [e4]
      refine V.if_eqB (tgt := 82) dX6_beside_70 (by decide) (fun c70 => ?_) (fun c70 => ?_)
      · refine V.bipush (v := -4) dX6_beside_82 (by decide) ?_
        exact V.iretP (by exact dX6_beside_84) rfl (by have hz := of_decide_eq_false c70; show _ = gI (mbs c 2); unfold mbs; rw [if_neg (by omega), if_neg (by omega), if_pos rfl, if_pos (by omega)]; rfl) rfl
      · refine V.bipush (v := nI 12) dX6_beside_73 (by decide) ?_
        refine V.iload_n dX6_beside_75 rfl ?_
        refine V.imul dX6_beside_76 ?_
        refine V.iload_n dX6_beside_77 rfl ?_
        refine V.iadd dX6_beside_78 ?_
        refine V.goto (tgt := 84) dX6_beside_79 (by decide) ?_
        exact V.iretP (by exact dX6_beside_84) rfl (by have hz := of_decide_eq_true c70; rw [v3]; show _ = gI (mbs c 2); unfold mbs; rw [if_neg (by omega), if_neg (by omega), if_pos rfl, if_neg (by omega)]; rfl) rfl
  · refine V.iload_n dX6_beside_0 rfl ?_
    refine V.bipush (v := nI 12) dX6_beside_1 (by decide) ?_
    refine V.iremN dX6_beside_3 (by omega) (by omega) (by omega) ?_
    refine V.iload_n dX6_beside_4 rfl ?_
    refine V.if_ne (tgt := 12) dX6_beside_5 (by decide) (fun _ => ?_) (fun q => absurd q (by decide))
    refine V.iload_n dX6_beside_12 rfl ?_
    refine V.iconst (v := nI 1) dX6_beside_13 (by decide) ?_
    refine V.icmp_ne (tgt := 21) dX6_beside_14 (by decide) (fun _ => ?_) (fun q => absurd q (by decide))
    refine V.iconst (v := nI 0) dX6_beside_21 (by decide) ?_
    refine V.iadd dX6_beside_22 ?_
    refine V.ist2 dX6_beside_23 (by decide) rfl ?_
    refine V.iload_n dX6_beside_24 rfl ?_
    refine V.bipush (v := nI 12) dX6_beside_25 (by decide) ?_
    refine V.idivN dX6_beside_27 (by omega) (by omega) (by omega) ?_
    refine V.iload_n dX6_beside_28 rfl ?_
    refine V.iconst (v := nI 2) dX6_beside_29 (by decide) ?_
    refine V.icmp_ne (tgt := 37) dX6_beside_30 (by decide) (fun _ => ?_) (fun q => absurd q (by decide))
    refine V.iload_n dX6_beside_37 rfl ?_
    refine V.iconst (v := nI 3) dX6_beside_38 (by decide) ?_
    refine V.icmp_ne (tgt := 46) dX6_beside_39 (by decide) (fun q => absurd q (by decide)) (fun _ => ?_)
    refine V.iconst (v := -1) dX6_beside_42 (by decide) ?_
    refine V.goto (tgt := 47) dX6_beside_43 (by decide) ?_
    refine V.iadd dX6_beside_47 ?_
    refine V.ist3 dX6_beside_48 (by decide) rfl ?_
    refine V.iload_n dX6_beside_49 rfl ?_
    refine V.i2l dX6_beside_50 ?_
    refine V.lconst (v := 0) dX6_beside_51 (by decide) ?_
    refine V.ldc2 dX6_beside_52 cn_X6_204 ?_
    refine V.callSv [_, _, _] dX6_beside_55 lk_X6_62 rfl (Nat.le_of_ble_eq_true rfl) (Nat.le_of_ble_eq_true rfl) (s6_isInC _ _ _ (nI 0) (nI 11) (by decide) (by decide) _ _) ?_
    rw [e3]
    refine V.if_eqB (tgt := 82) dX6_beside_58 (by decide) (fun c58 => ?_) (fun c58 => ?_)
    · refine V.bipush (v := -4) dX6_beside_82 (by decide) ?_
      exact V.iretP (by exact dX6_beside_84) rfl (by exact absurd c58 (by decide)) rfl
    · refine V.iload_n dX6_beside_61 rfl ?_
      refine V.i2l dX6_beside_62 ?_
      refine V.lconst (v := 0) dX6_beside_63 (by decide) ?_
      refine V.ldc2 dX6_beside_64 cn_X6_206 ?_
      refine V.callSv [_, _, _] dX6_beside_67 lk_X6_62 rfl (Nat.le_of_ble_eq_true rfl) (Nat.le_of_ble_eq_true rfl) (s6_isInC _ _ _ (nI 0) (nI 6) (by decide) (by decide) _ _) ?_
      rw [e5]
      refine V.if_eqB (tgt := 82) dX6_beside_70 (by decide) (fun c70 => ?_) (fun c70 => ?_)
      · refine V.bipush (v := -4) dX6_beside_82 (by decide) ?_
        exact V.iretP (by exact dX6_beside_84) rfl (by have hz := of_decide_eq_false c70; show _ = gI (mbs c 3); unfold mbs; rw [if_neg (by omega), if_neg (by omega), if_neg (by omega), if_pos (by omega)]; rfl) rfl
      · refine V.bipush (v := nI 12) dX6_beside_73 (by decide) ?_
        refine V.iload_n dX6_beside_75 rfl ?_
        refine V.imul dX6_beside_76 ?_
        refine V.iload_n dX6_beside_77 rfl ?_
        refine V.iadd dX6_beside_78 ?_
        refine V.goto (tgt := 84) dX6_beside_79 (by decide) ?_
        exact V.iretP (by exact dX6_beside_84) rfl (by have hz := of_decide_eq_true c70; rw [v4 (by omega)]; show _ = gI (mbs c 3); unfold mbs; rw [if_neg (by omega), if_neg (by omega), if_neg (by omega), if_neg (by omega)]; rfl) rfl
