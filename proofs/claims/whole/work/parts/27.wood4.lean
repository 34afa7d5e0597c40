def ds (x y : Nat) : Nat := if x ≤ y then y - x else x - y
theorem am_sub {x y : Nat} (hx : x < 1073741824) (hy : y < 1073741824) : am (nI x - nI y) = nI (ds x y) := by
  by_cases h : y ≤ x
  · rw [pk_sub h, am, if_neg (nI_pos (by omega)), ds]
    split
    · rw [show x - y = y - x by omega]
    · rfl
  · rw [am, if_pos (pk_sneg hy (by omega)), Int32.neg_sub, pk_sub (by omega), ds, if_pos (by omega)]
theorem sq_sub {x y : Nat} (hx : x < 1073741824) (hy : y < 1073741824) : (nI x - nI y) * (nI x - nI y) = nI (ds x y * ds x y) := by
  by_cases h : y ≤ x
  · rw [pk_sub h, pk_mul, ds]
    split
    · rw [show x - y = y - x by omega]
    · rfl
  · have e : nI x - nI y = -(nI (y - x)) := by rw [← pk_sub (by omega), Int32.neg_sub]
    rw [e, Int32.neg_mul, Int32.mul_neg, Int32.neg_neg, pk_mul, ds, if_pos (by omega)]
theorem nr_nI {a b : Nat} (ha : a < 84) (hb : b < 84) : nr (nI a) (nI b) = nI (ds (a % 12) (b % 12) + ds (a / 12) (b / 12)) := by
  rw [nr, rm_nI (by omega), rm_nI (by omega), pk_div (by omega) (by decide) (by decide), pk_div (by omega) (by decide) (by decide), am_sub (by omega) (by omega), am_sub (by omega) (by omega), nI_add]
theorem ds_comm (x y : Nat) : ds x y = ds y x := by
  unfold ds
  split <;> split <;> omega
theorem nr_comm {a b : Int32} (ha : cellv a) (hb : cellv b) : nr a b = nr b a := by
  obtain ⟨i, hi, rfl⟩ := ha
  obtain ⟨j, hj, rfl⟩ := hb
  rw [nr_nI hi hj, nr_nI hj hi, ds_comm (i % 12), ds_comm (i / 12)]
theorem nr_small {a b : Int32} (ha : cellv a) (hb : cellv b) : nr a b < 2147483647 := by
  obtain ⟨i, hi, rfl⟩ := ha
  obtain ⟨j, hj, rfl⟩ := hb
  rw [nr_nI hi hj, show (2147483647 : Int32) = nI 2147483647 by decide]
  have h1 : ds (i % 12) (j % 12) ≤ 12 := by unfold ds; split <;> omega
  have h2 : ds (i / 12) (j / 12) ≤ 12 := by unfold ds; split <;> omega
  exact nI_lt (by omega) (by decide)
theorem cEn_at {K : KK} {p x y : Nat} (hx : x ≤ 11) (hy : y ≤ 6) : cEn K p (nI x) (nI y) = meB K p (nI (12 * y + x)) := by
  rw [cEn, wi_nI (by omega) (by decide), wi_nI (by omega) (by decide), pk_mul, nI_add, meB, decide_eq_true hx, decide_eq_true hy, Bool.true_and, Bool.true_and]
/-- along the columns -/
theorem col_case {K : KK} {p c g : Nat} (hc : gP K p 4 = nI c) (h84 : c < 84) (hg : g < 84) : (acr K p (nI g) = 0 ∧ tX K p (nI g) = false) ∨ ∃ q : Nat, q < 84 ∧ ¬ acr K p (nI g) = 0 ∧ gP K p 4 + (if acr K p (nI g) < 0 then -1 else nI 1) = nI q ∧ tX K p (nI g) = meB K p (nI q) ∧ vX K p (nI g) = nI q := by
  have e1 : acr K p (nI g) = nI (g % 12) - nI (c % 12) := by rw [acr, hc, rm_nI (by omega), rm_nI (by omega)]
  rcases Nat.lt_trichotomy (g % 12) (c % 12) with h | h | h
  · refine Or.inr ⟨c - 1, by omega, ?_⟩
    have hneg : nI (g % 12) - nI (c % 12) < 0 := pk_sneg (by omega) h
    have hne : ¬ nI (g % 12) - nI (c % 12) = 0 := fun q => by rw [q] at hneg; exact absurd hneg (by decide)
    have hsg : sgn (nI (g % 12) - nI (c % 12)) = -1 := by
      rw [sgn, if_neg (fun q => absurd (Int32.lt_trans hneg q) Int32.lt_irrefl), if_pos hneg]
    have hx1 : nI (c % 12) + (-1) = nI (c % 12 - 1) := by
      have := pk_m1 (c % 12 - 1)
      rw [show c % 12 - 1 + 1 = c % 12 by omega] at this
      exact this
    have hc1 : nI c + (-1) = nI (c - 1) := by
      have := pk_m1 (c - 1)
      rw [show c - 1 + 1 = c by omega] at this
      exact this
    refine ⟨by rw [e1]; exact hne, by rw [e1, if_pos hneg, hc]; exact hc1, ?_, ?_⟩
    · rw [tX, e1, hsg, hc, rm_nI (by omega), hx1, pk_div (by omega) (by decide) (by decide), nI_add, cEn_at (by omega) (by omega), show 12 * (c / 12 + 0) + (c % 12 - 1) = c - 1 by omega]
      simp
    · rw [vX, e1, hsg, hc, rm_nI (by omega), pk_div (by omega) (by decide) (by decide), nI_add, pk_mul, Int32.add_assoc, hx1, nI_add, show 12 * (c / 12 + 0) + (c % 12 - 1) = c - 1 by omega]
  · refine Or.inl ?_
    have e2 : acr K p (nI g) = 0 := by rw [e1, h, pk_sub (Nat.le_refl _), Nat.sub_self]; rfl
    refine ⟨e2, ?_⟩
    rw [tX, e2, show sgn 0 = 0 by decide]
    rfl
  · refine Or.inr ⟨c + 1, by omega, ?_⟩
    have e2 : nI (g % 12) - nI (c % 12) = nI (g % 12 - c % 12) := pk_sub (by omega)
    have hnn : ¬ nI (g % 12 - c % 12) < 0 := nI_pos (by omega)
    have hne : ¬ nI (g % 12 - c % 12) = 0 := nI_ne0 (by omega) (by omega)
    have hsg : sgn (nI (g % 12 - c % 12)) = nI 1 := by
      rw [sgn, if_pos]
      have := nI_lt (show 0 < g % 12 - c % 12 by omega) (by omega)
      rw [nI_0] at this
      exact this
    refine ⟨by rw [e1, e2]; exact hne, by rw [e1, e2, if_neg hnn, hc, nI_add], ?_, ?_⟩
    · rw [tX, e1, e2, hsg, hc, rm_nI (by omega), nI_add, pk_div (by omega) (by decide) (by decide), nI_add, cEn_at (by omega) (by omega), show 12 * (c / 12 + 0) + (c % 12 + 1) = c + 1 by omega]
      have h1 : ¬ nI 1 = 0 := by decide
      simp [h1]
    · rw [vX, e1, e2, hsg, hc, rm_nI (by omega), pk_div (by omega) (by decide) (by decide), nI_add, pk_mul, nI_add, nI_add, show 12 * (c / 12 + 0) + c % 12 + 1 = c + 1 by omega]
/-- along the rows -/
theorem row_case {K : KK} {p c g : Nat} (hc : gP K p 4 = nI c) (h84 : c < 84) (hg : g < 84) : (dwn K p (nI g) = 0 ∧ tY K p (nI g) = false) ∨ ∃ q : Nat, q < 84 ∧ ¬ dwn K p (nI g) = 0 ∧ gP K p 4 + (if dwn K p (nI g) < 0 then -12 else nI 12) = nI q ∧ tY K p (nI g) = meB K p (nI q) ∧ vY K p (nI g) = nI q := by
  have e1 : dwn K p (nI g) = nI (g / 12) - nI (c / 12) := by rw [dwn, hc, pk_div (by omega) (by decide) (by decide), pk_div (by omega) (by decide) (by decide)]
  have m12 : ∀ k : Nat, nI (k + 12) + (-12) = nI k := by
    intro k
    rw [← nI_add, Int32.add_assoc, show nI 12 + (-12) = nI 0 by decide, nI_add, Nat.add_zero]
  rcases Nat.lt_trichotomy (g / 12) (c / 12) with h | h | h
  · refine Or.inr ⟨c - 12, by omega, ?_⟩
    have hneg : nI (g / 12) - nI (c / 12) < 0 := pk_sneg (by omega) h
    have hne : ¬ nI (g / 12) - nI (c / 12) = 0 := fun q => by rw [q] at hneg; exact absurd hneg (by decide)
    have hsg : sgn (nI (g / 12) - nI (c / 12)) = -1 := by
      rw [sgn, if_neg (fun q => absurd (Int32.lt_trans hneg q) Int32.lt_irrefl), if_pos hneg]
    have hy1 : nI (c / 12) + (-1) = nI (c / 12 - 1) := by
      have := pk_m1 (c / 12 - 1)
      rw [show c / 12 - 1 + 1 = c / 12 by omega] at this
      exact this
    have hc1 : nI c + (-12) = nI (c - 12) := by
      have := m12 (c - 12)
      rw [show c - 12 + 12 = c by omega] at this
      exact this
    refine ⟨by rw [e1]; exact hne, by rw [e1, if_pos hneg, hc]; exact hc1, ?_, ?_⟩
    · rw [tY, e1, hsg, hc, rm_nI (by omega), pk_div (by omega) (by decide) (by decide), hy1, nI_add, cEn_at (by omega) (by omega), show 12 * (c / 12 - 1) + (c % 12 + 0) = c - 12 by omega]
      simp
    · rw [vY, e1, hsg, hc, rm_nI (by omega), pk_div (by omega) (by decide) (by decide), hy1, pk_mul, nI_add, nI_add, show 12 * (c / 12 - 1) + c % 12 + 0 = c - 12 by omega]
  · refine Or.inl ?_
    have e2 : dwn K p (nI g) = 0 := by rw [e1, h, pk_sub (Nat.le_refl _), Nat.sub_self]; rfl
    refine ⟨e2, ?_⟩
    rw [tY, e2, show sgn 0 = 0 by decide]
    rfl
  · refine Or.inr ⟨c + 12, by omega, ?_⟩
    have e2 : nI (g / 12) - nI (c / 12) = nI (g / 12 - c / 12) := pk_sub (by omega)
    have hnn : ¬ nI (g / 12 - c / 12) < 0 := nI_pos (by omega)
    have hne : ¬ nI (g / 12 - c / 12) = 0 := nI_ne0 (by omega) (by omega)
    have hsg : sgn (nI (g / 12 - c / 12)) = nI 1 := by
      rw [sgn, if_pos]
      have := nI_lt (show 0 < g / 12 - c / 12 by omega) (by omega)
      rw [nI_0] at this
      exact this
    refine ⟨by rw [e1, e2]; exact hne, by rw [e1, e2, if_neg hnn, hc, nI_add], ?_, ?_⟩
    · rw [tY, e1, e2, hsg, hc, rm_nI (by omega), pk_div (by omega) (by decide) (by decide), nI_add, nI_add, cEn_at (by omega) (by omega), show 12 * (c / 12 + 1) + (c % 12 + 0) = c + 12 by omega]
      have h1 : ¬ nI 1 = 0 := by decide
      simp [h1]
    · rw [vY, e1, e2, hsg, hc, rm_nI (by omega), pk_div (by omega) (by decide) (by decide), nI_add, pk_mul, nI_add, nI_add, show 12 * (c / 12 + 1) + c % 12 + 0 = c + 12 by omega]
theorem ahead {K : KK} {p c g : Nat} (hc : gP K p 4 = nI c) (h84 : c < 84) (hg : g < 84) : (dwn K p (nI g) * dwn K p (nI g) ≤ acr K p (nI g) * acr K p (nI g)) ↔ am (dwn K p (nI g)) ≤ am (acr K p (nI g)) := by
  rw [dwn, acr, hc, rm_nI (by omega), rm_nI (by omega), pk_div (by omega) (by decide) (by decide), pk_div (by omega) (by decide) (by decide), sq_sub (by omega) (by omega), sq_sub (by omega) (by omega), am_sub (by omega) (by omega), am_sub (by omega) (by omega)]
  have h1 : ds (g % 12) (c % 12) ≤ 12 := by unfold ds; split <;> omega
  have h2 : ds (g / 12) (c / 12) ≤ 12 := by unfold ds; split <;> omega
  have h3 := Nat.mul_le_mul h1 h1
  have h4 := Nat.mul_le_mul h2 h2
  rw [nI_leI (by omega) (by omega), nI_leI (by omega) (by omega)]
  exact Nat.mul_self_le_mul_self_iff
/-- the class's step is the reference's -/
theorem stp_nxt {K : KK} {p : Nat} {g : Int32} (hc : cellv (gP K p 4)) (hg : cellv g) : stp K p g = nxt K p g := by
  obtain ⟨c, h84, hc⟩ := hc
  obtain ⟨g, hg84, rfl⟩ := hg
  have ha := ahead hc h84 hg84
  rw [stp, stB, stC, stD, stE, nxt]
  rcases col_case hc h84 hg84 with ⟨c1, c2⟩ | ⟨q, q84, c1, c2, c3, c4⟩ <;> rcases row_case hc h84 hg84 with ⟨r1, r2⟩ | ⟨u, u84, r1, r2, r3, r4⟩
  · simp only [decide_eq_true c1, decide_eq_true r1, c2, r2, Bool.not_true, Bool.false_and, Bool.false_eq_true, if_false, ite_self]
  · simp only [decide_eq_true c1, decide_eq_false r1, r2, ← r3, c2, r4, Bool.not_true, Bool.not_false, Bool.true_and, Bool.false_and, Bool.false_eq_true, if_false]
    split <;> simp
  · simp only [decide_eq_false c1, decide_eq_true r1, c2, ← c3, r2, c4, Bool.not_true, Bool.not_false, Bool.true_and, Bool.false_and, Bool.false_eq_true, if_false]
    cases tX K p (nI g) <;> simp
  · simp only [decide_eq_false c1, decide_eq_false r1, c2, r2, ← c3, ← r3, c4, r4, Bool.not_false, Bool.true_and, decide_eq_true_eq, ha]
    cases tX K p (nI g) <;> cases tY K p (nI g) <;> simp
theorem stp_c {K : KK} {p : Nat} {g : Int32} (hc : cellv (gP K p 4)) (hg : cellv g) (h : ¬ acr K p g = 0) : cellv (gP K p 4 + (if acr K p g < 0 then -1 else nI 1)) := by
  obtain ⟨c, h84, hc⟩ := hc
  obtain ⟨g, hg84, rfl⟩ := hg
  rcases col_case hc h84 hg84 with ⟨c1, c2⟩ | ⟨q, q84, c1, c2, c3, c4⟩
  · exact absurd c1 h
  · exact ⟨q, q84, c2⟩
theorem stp_r {K : KK} {p : Nat} {g : Int32} (hc : cellv (gP K p 4)) (hg : cellv g) (h : ¬ dwn K p g = 0) : cellv (gP K p 4 + (if dwn K p g < 0 then -12 else nI 12)) := by
  obtain ⟨c, h84, hc⟩ := hc
  obtain ⟨g, hg84, rfl⟩ := hg
  rcases row_case hc h84 hg84 with ⟨c1, c2⟩ | ⟨q, q84, c1, c2, c3, c4⟩
  · exact absurd c1 h
  · exact ⟨q, q84, c2⟩
theorem s4_step (l : Launch) (d : Nat) (h : MH) (n w : Nat) (K : KK) (cl P : Nat → Int32) (pn : Nat) (hw : WoodAt h w K cl P pn) (p : Nat) (hp : p < 10) (hcp : cAt K cl p = gP K p 4) (g : Int32) (hc : cellv (gP K p 4)) (hg : cellv g) : Sp l mX4_stepOf (d + 2) [.ref w, .ref (w + 8 + p), .int g] h n 0 0 (Pv (nxt K p g) h n) := by
  rw [← stp_nxt hc hg]
  exact s4_stepOf l d h n w K cl P pn hw p hp hcp g (stp_c hc hg) (stp_r hc hg)
