theorem SI_low {S S1 : SS} (h : SI S) (h1 : ∀ v, v ≠ 3 → S1 v = S v) : SI S1 := fun i hi => by
  rw [h1 0 (by omega), h1 1 (by omega), h1 2 (by omega), h1 4 (by omega), h1 5 (by omega)]
  exact h i hi
theorem SI_put {S : SS} (h : SI S) (x y v : Int32) : SI (putS S x y v) := by
  unfold putS
  split
  · split
    · exact SI_low h (fun u hu => if_neg hu)
    · exact h
  · exact h
theorem SI_copy {S : SS} (h : SI S) (x i y j k : Int32) : SI (copyS S x i y j k) := by
  unfold copyS
  split
  · exact SI_low h (fun u hu => if_neg hu)
  · exact h
theorem SI_row {S : SS} (h : SI S) (x y k : Int32) : SI (rowS S x y k) := by
  unfold rowS
  split
  · next ok =>
    split
    · exact h
    · next k0 =>
      rw [rowOk, Bool.and_eq_true, Bool.and_eq_true] at ok
      obtain ⟨-, o2, o3⟩ := ok
      have hy : ∃ t : Nat, t ≤ 2 ∧ y = nI t := wi_ex (by decide) o2
      have hk : ∃ t : Nat, t ≤ 100 ∧ k = nI t := by
        obtain ⟨t, ht, e⟩ := nI_of k0
        refine ⟨t, ?_, e⟩
        have z := of_decide_eq_true o3
        rw [e] at z
        exact (nI_leI (by omega) (by omega)).mp z
      intro j hj
      have e0 : rowU S x.toNatClampNeg y k 0 = upd (S 0) x.toNatClampNeg (nI 2) := rfl
      have e1 : rowU S x.toNatClampNeg y k 1 = upd (S 1) x.toNatClampNeg y := rfl
      have e2 : rowU S x.toNatClampNeg y k 2 = upd (S 2) x.toNatClampNeg k := rfl
      have e4 : rowU S x.toNatClampNeg y k 4 = S 4 := rfl
      have e5 : rowU S x.toNatClampNeg y k 5 = S 5 := rfl
      rw [e0, e1, e2, e4, e5]
      by_cases q : j = x.toNatClampNeg
      · rw [q, pk_us, pk_us, pk_us]
        exact ⟨Or.inr (Or.inr rfl), fun z => absurd z (by decide), fun _ => ⟨hy, hk⟩⟩
      · rw [pk_un q, pk_un q, pk_un q]
        exact h j hj
  · exact h
theorem SI_keep {S : SS} (h : SI S) (x y k g : Int32) : SI (keepS S x y k g) := by
  unfold keepS
  split
  · next ok =>
    rw [keepOk, Bool.and_eq_true, Bool.and_eq_true] at ok
    obtain ⟨-, o2, o3⟩ := ok
    obtain ⟨t, ht, et⟩ := wi_ex (by decide) o2
    intro j hj
    have e0 : keepU S x.toNatClampNeg y k g 0 = upd (S 0) x.toNatClampNeg y := rfl
    have e1 : keepU S x.toNatClampNeg y k g 1 = S 1 := rfl
    have e2 : keepU S x.toNatClampNeg y k g 2 = S 2 := rfl
    have e4 : keepU S x.toNatClampNeg y k g 4 = upd (S 4) x.toNatClampNeg k := rfl
    have e5 : keepU S x.toNatClampNeg y k g 5 = upd (S 5) x.toNatClampNeg g := rfl
    rw [e0, e1, e2, e4, e5]
    by_cases q : j = x.toNatClampNeg
    · rw [q, pk_us, pk_us, pk_us]
      refine ⟨?_, fun z => ?_, fun z => ?_⟩
      · rcases (show t = 0 ∨ t = 1 by omega) with w | w
        · exact Or.inl (by rw [et, w])
        · exact Or.inr (Or.inl (by rw [et, w]))
      · rw [decide_eq_false (show ¬ y = nI 0 by rw [z]; decide), Bool.false_or, Bool.and_eq_true] at o3
        exact ⟨wi_ex (by decide) o3.1, wi_ex (by decide) o3.2⟩
      · rw [et] at z
        exact absurd ((nI_eq (by omega) (by omega)).mp z) (by omega)
    · rw [pk_un q, pk_un q, pk_un q]
      exact h j hj
  · exact h
