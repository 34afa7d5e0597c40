/-- by how many of a side a cell is seen -/
def sn (K : KK) (m : Nat) (s : Int32) (i : Nat) : Nat := cN (wtB K s (nI i)) m
/-- ways of so many steps from c0 to a cell, seen so often -/
def Wk (K : KK) (m : Nat) (s : Int32) (c0 : Nat) : Nat → Nat → Nat → Prop
  | 0, c, v => c = c0 ∧ v = 0
  | k + 1, c, v => ∃ b u, Wk K m s c0 k b u ∧ adjC b c = true ∧ opC K c = true ∧ v = u + sn K m s c
section WW
variable {K : KK} {m : Nat} {s : Int32} {c0 : Nat}
theorem Wk_lt (h0 : c0 < 84) : ∀ {t c v : Nat}, Wk K m s c0 t c v → c < 84 := by
  intro t
  induction t with
  | zero => intro c v h; rw [h.1]; exact h0
  | succ t ih =>
    intro c v h
    obtain ⟨b, u, h1, h2, -, -⟩ := h
    exact adj_lt (ih h1) h2
theorem Wk_s (hm : m ≤ 10) : ∀ {t c v : Nat}, Wk K m s c0 t c v → v ≤ 10 * t := by
  intro t
  induction t with
  | zero => intro c v h; rw [h.2]; omega
  | succ t ih =>
    intro c v h
    obtain ⟨b, u, h1, -, -, h4⟩ := h
    have := ih h1
    have h5 : sn K m s c ≤ m := cN_le _ _
    omega
theorem pigeon : ∀ (N : Nat) (g : Nat → Nat), (∀ i, i ≤ N → g i < N) → ∃ i j, i < j ∧ j ≤ N ∧ g i = g j := by
  intro N
  induction N with
  | zero => intro g h; exact absurd (h 0 (by omega)) (by omega)
  | succ N ih =>
    intro g h
    by_cases q : ∃ i, i ≤ N ∧ g i = g (N + 1)
    · obtain ⟨i, hi, e⟩ := q
      exact ⟨i, N + 1, by omega, by omega, e⟩
    · have hne : ∀ i, i ≤ N → g i ≠ g (N + 1) := fun i hi e => q ⟨i, hi, e⟩
      have hN := h (N + 1) (by omega)
      obtain ⟨i, j, h1, h2, h3⟩ := ih (fun i => if g i = N then g (N + 1) else g i) (fun i hi => by
        have h1 := h i (by omega)
        have h2 := hne i hi
        show (if g i = N then g (N + 1) else g i) < N
        split
        · rename_i e; rw [e] at h2; omega
        · omega)
      have n1 := hne i (by omega)
      have n2 := hne j (by omega)
      change (if g i = N then g (N + 1) else g i) = (if g j = N then g (N + 1) else g j) at h3
      refine ⟨i, j, h1, by omega, ?_⟩
      split at h3
      · split at h3
        · rename_i a b; rw [a, b]
        · exact absurd h3.symm n2
      · split at h3
        · exact absurd h3 n1
        · exact h3
/-- a way by its cells and sums -/
theorem Wk_path : ∀ {t c v : Nat}, Wk K m s c0 t c v → ∃ p q : Nat → Nat, (∀ i, i ≤ t → Wk K m s c0 i (p i) (q i)) ∧ p t = c ∧ q t = v ∧ ∀ i, i < t → adjC (p i) (p (i + 1)) = true ∧ opC K (p (i + 1)) = true ∧ q (i + 1) = q i + sn K m s (p (i + 1)) := by
  intro t
  induction t with
  | zero => intro c v h; exact ⟨fun _ => c, fun _ => v, fun i hi => by rw [show i = 0 by omega]; exact h, rfl, rfl, fun i hi => absurd hi (by omega)⟩
  | succ t ih =>
    intro c v h
    obtain ⟨b, u, h1, h2, h3, h4⟩ := h
    obtain ⟨p, q, g1, g2, g3, g4⟩ := ih h1
    refine ⟨fun i => if i = t + 1 then c else p i, fun i => if i = t + 1 then v else q i, fun i hi => ?_, if_pos rfl, if_pos rfl, fun i hi => ?_⟩
    · by_cases y : i = t + 1
      · subst y; simp only [if_true]; exact ⟨b, u, h1, h2, h3, h4⟩
      · simp only [y, if_false]; exact g1 i (by omega)
    · by_cases y : i = t
      · subst y
        simp only [if_true, show ¬ i = i + 1 by omega, if_false]
        rw [g2, g3]
        exact ⟨h2, h3, h4⟩
      · simp only [show ¬ i = t + 1 by omega, show ¬ i + 1 = t + 1 by omega, if_false]
        exact g4 i (by omega)
theorem Wk_cut {t c v : Nat} (h0 : c0 < 84) (ht : 84 ≤ t) (h : Wk K m s c0 t c v) : ∃ t1 v1, t1 < t ∧ v1 ≤ v ∧ Wk K m s c0 t1 c v1 := by
  obtain ⟨p, q, g1, g2, g3, g4⟩ := Wk_path h
  obtain ⟨i, j, h1, h2, h3⟩ := pigeon 84 p (fun i hi => Wk_lt h0 (g1 i (by omega)))
  have ext : ∀ k, j + k ≤ t → ∃ v1, Wk K m s c0 (i + k) (p (j + k)) v1 ∧ v1 + q j = q i + q (j + k) := by
    intro k
    induction k with
    | zero => intro _; exact ⟨q i, by rw [Nat.add_zero, Nat.add_zero, ← h3]; exact g1 i (by omega), by rw [Nat.add_zero]⟩
    | succ k ih =>
      intro hk
      obtain ⟨v1, e1, e2⟩ := ih (by omega)
      obtain ⟨a1, a2, a3⟩ := g4 (j + k) (by omega)
      exact ⟨v1 + sn K m s (p (j + (k + 1))), ⟨_, _, e1, a1, a2, rfl⟩, by rw [show j + (k + 1) = j + k + 1 by omega, a3]; omega⟩
  have qm : ∀ k, i + k ≤ t → q i ≤ q (i + k) := by
    intro k
    induction k with
    | zero => intro _; exact Nat.le_refl _
    | succ k ih => intro hk; have := (g4 (i + k) (by omega)).2.2; have := ih (by omega); rw [show i + (k + 1) = i + k + 1 by omega]; omega
  obtain ⟨v1, e1, e2⟩ := ext (t - j) (by omega)
  have hq := qm (j - i) (by omega)
  rw [show i + (j - i) = j by omega] at hq
  rw [show j + (t - j) = t by omega, g2] at e1
  rw [show j + (t - j) = t by omega, g3] at e2
  exact ⟨i + (t - j), v1, by omega, by omega, e1⟩
/-- no way is better than one of at most 83 steps -/
theorem Wk_short (h0 : c0 < 84) : ∀ (N t c v : Nat), t ≤ N → Wk K m s c0 t c v → ∃ t1 v1, t1 ≤ 83 ∧ t1 ≤ t ∧ v1 ≤ v ∧ Wk K m s c0 t1 c v1 := by
  intro N
  induction N with
  | zero => intro t c v ht h; exact ⟨t, v, by omega, by omega, by omega, h⟩
  | succ N ih =>
    intro t c v ht h
    by_cases q : t ≤ 83
    · exact ⟨t, v, q, by omega, by omega, h⟩
    · obtain ⟨t1, v1, a1, a2, a3⟩ := Wk_cut h0 (by omega) h
      obtain ⟨t2, v2, b1, b2, b3, b4⟩ := ih t1 c v1 (by omega) a3
      exact ⟨t2, v2, b1, by omega, by omega, b4⟩
/-- the best way: seen least, then of the fewest steps -/
def LO (K : KK) (m : Nat) (s : Int32) (c0 c1 : Nat) (p : Nat × Nat) : Prop := Wk K m s c0 p.2 c1 p.1 ∧ ∀ t v, Wk K m s c0 t c1 v → p.1 < v ∨ (p.1 = v ∧ p.2 ≤ t)
theorem LO_uniq {c1 : Nat} {p q : Nat × Nat} (hp : LO K m s c0 c1 p) (hq : LO K m s c0 c1 q) : p = q := by
  have a := hp.2 q.2 q.1 hq.1
  have b := hq.2 p.2 p.1 hp.1
  obtain ⟨p1, p2⟩ := p
  obtain ⟨q1, q2⟩ := q
  simp only at a b
  rw [Prod.mk.injEq]
  omega
theorem LO_of {c1 t v : Nat} (h0 : c0 < 84) (hW : Wk K m s c0 t c1 v) (hb : ∀ t1 v1, Wk K m s c0 t1 c1 v1 → 1000 * v + t ≤ 1000 * v1 + t1) : LO K m s c0 c1 (v, t) ∧ t ≤ 83 := by
  obtain ⟨t1, v1, a1, a2, a3, a4⟩ := Wk_short h0 t t c1 v (Nat.le_refl t) hW
  have h1 := hb t1 v1 a4
  have h83 : t ≤ 83 := by omega
  refine ⟨⟨hW, fun t2 v2 h2 => ?_⟩, h83⟩
  obtain ⟨t3, v3, b1, b2, b3, b4⟩ := Wk_short h0 t2 t2 c1 v2 (Nat.le_refl t2) h2
  have h3 := hb t3 v3 b4
  simp only
  omega
theorem LO_83 {c1 : Nat} {p : Nat × Nat} (h0 : c0 < 84) (h : LO K m s c0 c1 p) : p.2 ≤ 83 := by
  obtain ⟨t1, v1, a1, a2, a3, a4⟩ := Wk_short h0 p.2 p.2 c1 p.1 (Nat.le_refl _) h.1
  have := h.2 t1 v1 a4
  omega
/-- Dijkstra's invariant: E the costs (2147483647: none yet), U what is settled -/
def DI (K : KK) (m : Nat) (s : Int32) (c0 c1 : Nat) (U : Nat → Bool) (E : Nat → Nat) (i : Nat) : Prop :=
  (∀ j, j < 84 → E j < 2147483647 → (∃ t v, Wk K m s c0 t j v ∧ E j = 1000 * v + t) ∧ E j ≤ 10001 * i) ∧ (∀ j, j < 84 → E j ≤ 2147483647) ∧
  (∀ j, j < 84 → U j = true → E j < 2147483647 ∧ ∀ t v, Wk K m s c0 t j v → E j ≤ 1000 * v + t) ∧
  (∀ u j, u < 84 → j < 84 → U u = true → adjC u j = true → opC K j = true → E j ≤ E u + 1 + 1000 * sn K m s j) ∧
  (∀ u j, u < 84 → j < 84 → U u = true → U j = false → E u ≤ E j) ∧ E c0 = 0 ∧ cN U 84 = i ∧ U c1 = false
theorem DI_key {c1 : Nat} {U : Nat → Bool} {E : Nat → Nat} {i : Nat} (h0 : c0 < 84) (hm : m ≤ 10) (h : DI K m s c0 c1 U E i) : ∀ {t c v : Nat}, Wk K m s c0 t c v → U c = true ∨ ∃ j, j < 84 ∧ U j = false ∧ E j < 2147483647 ∧ E j ≤ 1000 * v + t := by
  obtain ⟨a1, a2, a3, a4, a5, a6, a7, a8⟩ := h
  intro t
  induction t with
  | zero =>
    intro c v hW
    obtain ⟨rfl, rfl⟩ := hW
    cases q : U c with
    | true => exact Or.inl rfl
    | false => exact Or.inr ⟨c, h0, q, by omega, by omega⟩
  | succ t ih =>
    intro c v hW
    obtain ⟨b, u, h1, h2, h3, h4⟩ := hW
    have hb := Wk_lt h0 h1
    have hc := adj_lt hb h2
    rcases ih h1 with y | ⟨j, j1, j2, j3, j4⟩
    · cases q : U c with
      | true => exact Or.inl rfl
      | false =>
        have e1 := a4 b c hb hc y h2 h3
        have e2 := a3 b hb y
        have e3 := e2.2 t u h1
        have e4 := (a1 b hb e2.1).2
        have e5 : cN U 84 ≤ 84 := cN_le _ _
        have e6 : sn K m s c ≤ m := cN_le _ _
        refine Or.inr ⟨c, hc, q, ?_, by omega⟩
        rcases Nat.lt_or_ge (E c) 2147483647 with y2 | y2
        · exact y2
        · exfalso
          have e7 := a2 c hc
          omega
    · exact Or.inr ⟨j, j1, j2, j3, by omega⟩
end WW
