/-- the statement that goes on at a place ends at another, and nowhere before -/
def Ppe (B : Nat → Int32) (N p e : Nat) : Prop := p + 1 ≤ e ∧ e ≤ N ∧ inB B N (e - 1) 59 59 = true ∧ ∀ j, p ≤ j → j < e - 1 → ¬ B j = nI 59
theorem PP_x {B : Nat → Int32} {N p e lo hi : Nat} (h : Ppe B N (p + 1) e) (hb : inB B N p lo hi = true) (h1 : lo < 1000) (h2 : hi < 1000) (h3 : (hi < 59 ∧ lo ≤ hi) ∨ 59 < lo) : Ppe B N p e := by
  obtain ⟨a, b, c, g⟩ := h
  refine ⟨by omega, b, c, fun j hj hj2 y => ?_⟩
  by_cases q : j = p
  · subst q
    have w := inB_ex h1 h2 hb
    rw [w.2.2.1] at y
    have := (nI_eq (by omega) (by omega)).mp y
    omega
  · exact g j (by omega) hj2 y
theorem run_pp {B : Nat → Int32} {N : Nat} {k : Nat → Bool × Nat} (hk : ∀ q, (k q).1 = true → Ppe B N q (k q).2) : ∀ (l : List (Nat × Nat)), (∀ a, a ∈ l → a.1 < 1000 ∧ a.2 < 1000 ∧ ((a.2 < 59 ∧ a.1 ≤ a.2) ∨ 59 < a.1)) → ∀ p, (run B N l p k).1 = true → Ppe B N p (run B N l p k).2 := by
  intro l
  induction l with
  | nil => intro _ p h; exact hk p h
  | cons a r ih =>
    intro ha p h
    obtain ⟨lo, hi⟩ := a
    have hx := ha (lo, hi) (List.mem_cons_self ..)
    cases q : inB B N p lo hi with
    | false => rw [run_n q] at h; cases h
    | true =>
      rw [run_y q] at h ⊢
      exact PP_x (ih (fun b hb => ha b (List.mem_cons_of_mem _ hb)) _ h) q hx.1 hx.2.1 hx.2.2
theorem run_E {B : Nat → Int32} {N : Nat} (q : Nat) (h : (run B N [(59, 59)] q fin1).1 = true) : Ppe B N q (run B N [(59, 59)] q fin1).2 := by
  cases y : inB B N q 59 59 with
  | false => rw [run_n y] at h; cases h
  | true =>
    rw [run_y y]
    have w := (inB_ex (by omega) (by omega) y).1
    exact ⟨Nat.le_refl _, w, y, fun j a b => by simp only [run, fin1] at b; omega⟩
theorem nm_dig {B : Nat → Int32} {N p e : Nat} (h : inB B N p 48 57 = true) (h2 : Ppe B N (nmP B N p) e) : Ppe B N p e := by
  unfold nmP at h2
  rw [if_pos h] at h2
  split at h2
  · exact PP_x h2 h (by omega) (by omega) (by omega)
  · split at h2
    · next y =>
      split at h2
      · next z => exact PP_x (PP_x (PP_x h2 z (by omega) (by omega) (by omega)) y (by omega) (by omega) (by omega)) h (by omega) (by omega) (by omega)
      · exact PP_x (PP_x h2 y (by omega) (by omega) (by omega)) h (by omega) (by omega) (by omega)
    · exact PP_x h2 h (by omega) (by omega) (by omega)
theorem ltr_nz {B : Nat → Int32} {N p : Nat} (h : ltr B N p ≠ 0) : p < N ∧ B p = nI (ltr B N p) := by
  unfold ltr at *
  by_cases q : p < N
  · rw [if_pos q] at h ⊢
    refine ⟨q, ?_⟩
    by_cases y : B p < 0
    · exfalso
      apply h
      have : (B p).toInt < 0 := by simpa using Int32.lt_iff_toInt_lt.mp y
      rw [Int32.toNatClampNeg]; omega
    · obtain ⟨j, hj, e⟩ := nI_of y
      rw [e, clampI (by omega)]
  · rw [if_neg q] at h; exact absurd rfl h
theorem stR_pp {B : Nat → Int32} {N p : Nat} (h : (stR B N p).1 = true) : Ppe B N p (stR B N p).2 ∧ (ltr B N p = 103 ∨ ltr B N p = 114 ∨ ltr B N p = 101 ∨ ltr B N p = 102 ∨ ltr B N p = 108 ∨ ltr B N p = 116 ∨ ltr B N p = 104 ∨ ltr B N p = 112 ∨ ltr B N p = 99) := by
  have first : ∀ e, 59 < ltr B N p → ltr B N p < 1000 → Ppe B N (p + 1) e → Ppe B N p e := fun e h1 h2 hp => by
    obtain ⟨x1, x2⟩ := ltr_nz (show ltr B N p ≠ 0 by omega)
    refine PP_x hp (lo := ltr B N p) (hi := ltr B N p) ((hb_eq h2).mp ?_) h2 h2 (Or.inr h1)
    rw [hb, if_pos x1, x2]
  have D := show ∀ a : Nat × Nat, a ∈ [(48, 57)] → a.1 < 1000 ∧ a.2 < 1000 ∧ ((a.2 < 59 ∧ a.1 ≤ a.2) ∨ 59 < a.1) from by decide
  unfold stR at h ⊢
  split at h
  · next q =>
    rw [if_pos q]
    refine ⟨first _ (by omega) (by omega) (run_pp (fun w hw => ?_) _ (by decide) _ h), Or.inl q⟩
    split at hw
    · next y => rw [if_pos y]; exact run_pp (k := fun q => run B N [(59, 59)] q fin1) (fun w hw => run_E w hw) [(97, 108), (48, 54)] (by decide) _ hw
    · next y => rw [if_neg y]; exact run_E _ hw
  · next q0 =>
    rw [if_neg q0]
    split at h
    · next q =>
      rw [if_pos q]
      exact ⟨first _ (by omega) (by omega) (run_pp (k := fun q => run B N [(59, 59)] q fin1) (fun w hw => run_E w hw) [(48, 57)] (by decide) _ h), by omega⟩
    · next q1 =>
      rw [if_neg q1]
      split at h
      · next q =>
        rw [if_pos q]
        split at h
        · next y => rw [if_pos y]; exact ⟨first _ (by omega) (by omega) (nm_dig y (run_E _ h)), by omega⟩
        · cases h
      · next q2 =>
        rw [if_neg q2]
        split at h
        · next q =>
          rw [if_pos q]
          exact ⟨first _ (by omega) (by omega) (run_pp (k := fun q => run B N [(59, 59)] q fin1) (fun w hw => run_E w hw) [(48, 57), (48, 57), (48, 57), (97, 108), (48, 54)] (by decide) _ h), by omega⟩
        · next q3 =>
          rw [if_neg q3]
          split at h
          · next q =>
            rw [if_pos q]
            exact ⟨first _ (by omega) (by omega) (run_pp (k := fun q => run B N [(59, 59)] q fin1) (fun w hw => run_E w hw) [(48, 57), (48, 57), (48, 57), (48, 57)] (by decide) _ h), by omega⟩
          · cases h
/-- a text's statements: whether it is one, where its reading stops, how many -/
def txS (B : Nat → Int32) (N : Nat) : Nat → Nat → Bool × Nat × Nat
  | 0, p => (true, p, 0)
  | r + 1, p => if (stR B N p).1 = true then (if (stR B N p).2 < N then ((txS B N r (stR B N p).2).1, (txS B N r (stR B N p).2).2.1, (txS B N r (stR B N p).2).2.2 + 1) else (true, (stR B N p).2, 1)) else (false, (stR B N p).2, 0)
def mOf (K : KK) : Nat := (K 90).toNatClampNeg
/-- what they do one after the other: the place of one that can't be done, or the wood -/
noncomputable def txE (B : Nat → Int32) (N : Nat) : Nat → Nat → KK → Nat ⊕ KK
  | 0, _, K => .inr K
  | r + 1, p, K => if p < N then (match cmE (ltr B N p) (nbs B (ltr B N p) p (stR B N p).2) K (mOf K) with
    | some K1 => txE B N r (stR B N p).2 K1
    | none => .inl p) else .inr K
def bts (S : SS) (i k : Nat) : Int32 := S 3 (100 * i + k)
noncomputable def txtV (S : SS) (i N : Nat) (K : KK) : Int32 := if (txS (bts S i) N 101 0).1 = true then (match txE (bts S i) N 101 0 K with
  | .inl p => -2000 - nI p
  | .inr _ => nI (txS (bts S i) N 101 0).2.2) else -1000 - nI (txS (bts S i) N 101 0).2.1
noncomputable def txtK (S : SS) (i N : Nat) (K : KK) : KK := if (txS (bts S i) N 101 0).1 = true then (match txE (bts S i) N 101 0 K with
  | .inl _ => K
  | .inr K1 => K1) else K
noncomputable def textV (S : SS) (K : KK) (x : Int32) : Int32 := if wyV S x = 0 then txtV S x.toNatClampNeg (S 2 x.toNatClampNeg).toNatClampNeg K else wyV S x
noncomputable def textS (S : SS) (K : KK) (x : Int32) : KK := if wyV S x = 0 then txtK S x.toNatClampNeg (S 2 x.toNatClampNeg).toNatClampNeg K else K
/-- every statement from a place on is one -/
def wel (B : Nat → Int32) (N : Nat) : Nat → Nat → Prop
  | 0, _ => True
  | r + 1, p => p < N → (stR B N p).1 = true ∧ wel B N r (stR B N p).2
theorem txS_wel {B : Nat → Int32} {N : Nat} : ∀ r p, (txS B N r p).1 = true → wel B N r p := by
  intro r
  induction r with
  | zero => intro p _; trivial
  | succ r ih =>
    intro p h hp
    rw [txS] at h
    split at h
    · next q =>
      refine ⟨q, ?_⟩
      split at h
      · exact ih _ h
      · next y =>
        cases r with
        | zero => trivial
        | succ r => exact fun z => absurd z y
    · cases h
