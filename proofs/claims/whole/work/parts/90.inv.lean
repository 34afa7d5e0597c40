/-- homes stay legal where nothing of them changes -/
theorem HL_st {K K1 : KK} {m : Nat} (h : HL K m) (hc : ∀ p, p < m → cellv (gP K p 3)) (h1 : ∀ j, j < 85 → K1 j = K j) (h0 : ∀ p, p < m → gP K1 p 0 = gP K p 0) (h3 : ∀ p, p < m → gP K1 p 3 = gP K p 3) : HL K1 m := fun p hp => by
  obtain ⟨a, b, c⟩ := h p hp
  obtain ⟨x, hx, e⟩ := hc p hp
  rw [h0 p hp, h3 p hp]
  refine ⟨a, ?_, ?_⟩
  · rw [e, clampI (by omega)] at b ⊢
    rw [h1 x (by omega)]; exact b
  · unfold ring at c ⊢
    rw [h1 84 (by omega)]; exact c
theorem TI_seed {K : KK} {m : Nat} (h : TI K m) (x : Int32) : TI (upd K 95 x) m := by
  have hl : ∀ j, j ≠ 95 → upd K 95 x j = K j := fun j hj => pk_un hj
  have hg : ∀ p u, gP (upd K 95 x) p u = gP K p u := fun p u => gP_lo _ _ _ _ _ (by omega)
  exact ⟨KD_lo h.1 95 x (by omega), fun p hp => by rw [hg]; exact h.2.1 p hp, by rw [hl _ (by omega)]; exact h.2.2.1, by rw [hl _ (by omega)]; exact h.2.2.2.1, by rw [hl _ (by omega)]; exact h.2.2.2.2.1, HL_st h.hl h.1.1.2.2.2.2.2.2.2 (fun j hj => hl j (by omega)) (fun p _ => hg p 0) (fun p _ => hg p 3)⟩
theorem TI_role {K : KK} {m : Nat} (h : TI K m) (p k : Nat) (g : Int32) (hk : k < 8) : TI (roleU K p (nI k) g) m := by
  have hl : ∀ j, j < 114 → roleU K p (nI k) g j = K j := fun j hj => roleU_lo _ _ _ _ _ hj
  have hg : ∀ q u, u < 7 → u ≠ 1 → u ≠ 2 → gP (roleU K p (nI k) g) q u = gP K q u := fun q u hu h1 h2 => by rw [roleU_gP _ _ _ _ _ _ hu, if_neg (by omega), if_neg (by omega)]
  exact ⟨KD_role h.1 k g hk, fun q hq => by rw [hg q 5 (by omega) (by omega) (by omega)]; exact h.2.1 q hq, by rw [hl _ (by omega)]; exact h.2.2.1, by rw [hl _ (by omega)]; exact h.2.2.2.1, by rw [hl _ (by omega)]; exact h.2.2.2.2.1, HL_st h.hl h.1.1.2.2.2.2.2.2.2 (fun j hj => hl j (by omega)) (fun q _ => hg q 0 (by omega) (by omega) (by omega)) (fun q _ => hg q 3 (by omega) (by omega) (by omega))⟩
theorem TI_bgn {K : KK} {m : Nat} (h : TI K m) (z : Int32) : TI (bgn K m z) m := by
  refine ⟨KD_bgn h.1 z, fun p hp => ?_, by rw [bgn_lo _ _ _ _ (by omega)]; exact h.2.2.1, ⟨0, by omega, rfl⟩, Or.inr (Or.inr rfl), HL_st h.hl h.1.1.2.2.2.2.2.2.2 (fun j hj => bgn_lo _ _ _ _ (by omega)) (fun p _ => bgn_s _ _ _ _ _ (by omega)) (fun p _ => bgn_s _ _ _ _ _ (by omega))⟩
  rw [bgn_gP _ _ _ _ _ (by omega)]
  split
  · rw [if_neg (by omega), if_neg (h.2.1 p hp), if_pos rfl]; decide
  · exact h.2.1 p hp
theorem TI_txE {B : Nat → Int32} {N : Nat} : ∀ (r p : Nat) (K : KK) (m : Nat) {K1 : KK}, TI K m → wel B N r p → txE B N r p K = .inr K1 → ∃ m1, TI K1 m1 := by
  intro r
  induction r with
  | zero => intro p K m K1 hT _ h; rw [txE] at h; cases h; exact ⟨m, hT⟩
  | succ r ih =>
    intro p K m K1 hT hw h
    have hmo : mOf K = m := by rw [mOf, hT.1.1.1, clampI (by have := hT.1.1.2.1; omega)]
    rw [txE] at h
    split at h
    · next y =>
      obtain ⟨ok, hw2⟩ := hw y
      split at h
      · next K2 e2 =>
        rw [hmo] at e2
        obtain ⟨hpp, hl⟩ := stR_pp ok
        obtain ⟨m2, hT2⟩ := TI_cm hT (din_lt (stR_din ok) hl (by have := hpp.1; omega)) e2
        exact ih _ K2 m2 hT2 hw2 h
      · cases h
    · cases h; exact ⟨m, hT⟩
theorem TI_text {S : SS} {K : KK} {m : Nat} (h : TI K m) (x : Int32) : ∃ m1, TI (textS S K x) m1 := by
  unfold textS
  split
  · unfold txtK
    split
    · next ok =>
      generalize hr : txE (bts S x.toNatClampNeg) (S 2 x.toNatClampNeg).toNatClampNeg 101 0 K = res
      cases res with
      | inl a => exact ⟨m, h⟩
      | inr K1 => exact TI_txE 101 0 K m h (txS_wel 101 0 ok) hr
    · exact ⟨m, h⟩
  · exact ⟨m, h⟩
theorem TI_roleS {S : SS} {K : KK} {m : Nat} (h : TI K m) (hS : SI S) (x y : Int32) : TI (roleS K S x y) m := by
  unfold roleS
  split
  · split
    · next c =>
      unfold wnV at c
      by_cases w : wi y (nI 0) (nI 7) = true
      · rw [if_pos w] at c
        obtain ⟨i, hi, rfl⟩ := wi_ex (by decide) w
        rw [clampI (show i < 2147483648 by omega)] at c ⊢
        by_cases c0 : S 0 i = nI 0
        · rw [if_pos c0] at c; exact absurd c (by decide)
        · rw [if_neg c0] at c
          by_cases c1 : S 0 i = nI 1
          · obtain ⟨k, hk, e⟩ := ((hS i (by omega)).2.1 c1).1
            rw [e]; exact TI_role h _ k _ (by omega)
          · rw [if_neg c1] at c; exact absurd c (by decide)
      · rw [if_neg w] at c; exact absurd c (by decide)
    · exact h
  · exact h
