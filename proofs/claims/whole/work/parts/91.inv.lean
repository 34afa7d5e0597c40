theorem z_td (K : KK) (p e : Nat) (he : e < 2) {j : Nat} (hj : j = 91 ∨ j = 92) : td K p e j = K j := by
  unfold td
  split
  · rw [pk_un (by omega), pk_un (by omega)]
  · rfl
theorem z_tch (K : KK) (p : Nat) {j : Nat} (hj : j = 91 ∨ j = 92) : tch K p j = K j := by
  have hd : dz K j = K j := pk_un (by omega)
  unfold tch
  split
  · unfold tr tq
    rw [pk_un (by omega), pk_un (by omega), pk_un (by omega), z_td _ _ _ (by omega) hj, z_td _ _ _ (by omega) hj, pk_un (by omega), hd]
  · exact hd
theorem z_frL (s : Int32) {j : Nat} (hj : j = 91 ∨ j = 92) : ∀ (r p : Nat) (K : KK), frL s r p K j = K j := by
  intro r
  induction r with
  | zero => intro p K; rfl
  | succ r ih =>
    intro p K
    have hr : rel K p j = K j := rel_lo _ _ _ (by omega)
    rw [frL]
    split
    · split
      · split
        · exact hr
        · rw [ih]; exact hr
      · exact ih _ _
    · exact ih _ _
theorem z_mfl (K : KK) (p e : Nat) (to : Int32) (he : e < 2) {j : Nat} (hj : j = 91 ∨ j = 92) : mfl K p e to j = K j := by
  unfold mfl
  split
  · rw [pk_un (by omega)]
  · rfl
theorem z_mvA (K : KK) (p : Nat) (to : Int32) {j : Nat} (hj : j = 91 ∨ j = 92) : mvA K p to j = K j := by
  unfold mvA
  split
  · rfl
  · rw [z_mfl _ _ _ _ (by omega) hj, z_mfl _ _ _ _ (by omega) hj]
    unfold mv1
    rw [pk_un (by omega), pk_un (by omega)]
theorem z_mvT (K : KK) (p : Nat) (to : Int32) (b : Nat) (hb : b < 2) {j : Nat} (hj : j = 91 ∨ j = 92) : mvT K p to b j = K j := by
  unfold mvT
  split
  · split
    · rw [pk_un (by omega), pk_un (by omega)]
    · rfl
  · rfl
theorem z_mvs (K : KK) (m p : Nat) {j : Nat} (hj : j = 91 ∨ j = 92) : mvs K m p j = K j := by
  unfold mvs mvF
  have h1 := (z_mvT (mvA K p (nxt K p (goal K m p))) p (nxt K p (goal K m p)) (1 - (gP K p 0).toNatClampNeg) (by omega) hj).trans (z_mvA K p (nxt K p (goal K m p)) hj)
  split
  · split
    · rw [z_frL _ hj]; exact h1
    · exact h1
  · exact h1
theorem z_mtL (p : Nat) (s : Int32) (b : Bool) {j : Nat} (hj : j = 91 ∨ j = 92) : ∀ (r q : Nat) (K : KK), mtL p s b r q K j = K j := by
  intro r
  induction r with
  | zero => intro q K; rfl
  | succ r ih =>
    intro q K
    rw [mtL, ih]
    unfold mt1
    repeat' split
    all_goals first | rfl | exact z_tch _ _ hj
def Won (v : Int32) : Prop := v = nI 0 ∨ v = nI 1 ∨ v = nI 2
theorem z_act {K : KK} {m p : Nat} (h : KD K m) (hp : p < m) (hf : frB K p = true) (h2 : Won (K 92)) : act K m p 91 = K 91 ∧ Won (act K m p 92) := by
  have hD := KD_act h hp (frB_z hf)
  have hs := Sta_act (Sta_rf m K) p hp (fr_n2 hf)
  have hb : ∀ j, (j = 91 ∨ j = 92) → mts (if 0 < gP K p 6 then upd K (114 + 7 * p + 6) (gP K p 6 - nI 1) else mvs K m p) m p j = K j := fun j hj => by
    rw [mts, z_mtL _ _ _ hj]
    split
    · rw [pk_un (by omega)]
    · exact z_mvs _ _ _ hj
  obtain ⟨e, he, e0⟩ := h.1.2.2.1 p hp
  have hg : gP (mts (if 0 < gP K p 6 then upd K (114 + 7 * p + 6) (gP K p 6 - nI 1) else mvs K m p) m p) p 0 = nI e := by
    rw [← e0, ← hs.2.1 p 0 (by omega)]
    unfold act acC
    repeat' split
    all_goals first | rfl | (rw [gP_lo _ _ _ _ _ (by omega)])
  have hw : Won (nI e) := by
    rcases (show e = 0 ∨ e = 1 by omega) with rfl | rfl
    · exact Or.inl rfl
    · exact Or.inr (Or.inl rfl)
  have key : ∀ K1 : KK, (∀ j, (j = 91 ∨ j = 92) → K1 j = K j) → gP K1 p 0 = nI e → acC K1 p 91 = K 91 ∧ Won (acC K1 p 92) := fun K1 hb hg => by
    unfold acC
    split
    · split
      · split
        · exact ⟨by rw [pk_un (by omega)]; exact hb 91 (Or.inl rfl), by rw [pk_us, hg]; exact hw⟩
        · exact ⟨hb 91 (Or.inl rfl), by rw [hb 92 (Or.inr rfl)]; exact h2⟩
      · exact ⟨hb 91 (Or.inl rfl), by rw [hb 92 (Or.inr rfl)]; exact h2⟩
    · exact ⟨hb 91 (Or.inl rfl), by rw [hb 92 (Or.inr rfl)]; exact h2⟩
  exact key _ hb hg
theorem z_scL {m : Nat} : ∀ (r p : Nat) (K : KK), KD K m → p + r ≤ m → Won (K 92) → scL m r p K 91 = K 91 ∧ Won (scL m r p K 92) := by
  intro r
  induction r with
  | zero => intro p K _ _ h; exact ⟨rfl, h⟩
  | succ r ih =>
    intro p K hD hp h
    rw [scL]
    split
    · split
      · next q =>
        have a := z_act hD (show p < m by omega) q h
        have b := ih (p + 1) _ (KD_act hD (show p < m by omega) (frB_z q)) (by omega) a.2
        exact ⟨b.1.trans a.1, b.2⟩
      · exact ih (p + 1) K hD (by omega) h
    · exact ⟨rfl, h⟩
theorem TI_sec {K : KK} {m : Nat} (h : TI K m) (he : endB K = false) : TI (sec K m) m := by
  have hs := Sta_sec K (Sta_rf m K)
  have z := z_scL m 0 K h.1 (by omega) h.2.2.2.2.1
  obtain ⟨q, q1, q2, hq⟩ := h.2.2.1
  obtain ⟨s, s1, hs1⟩ := h.2.2.2.1
  have hlt : s < q := by
    unfold endB at he
    rw [Bool.or_eq_false_iff] at he
    have h1 : K 91 < K 89 := by
      have := he.2
      cases w : decide (K 91 < K 89) with
      | true => exact of_decide_eq_true w
      | false => rw [w] at this; cases this
    rw [hs1, hq] at h1
    exact (nI_ltI (by omega) (by omega)).mp h1
  refine ⟨KD_sec h.1, fun p hp => hs.2.2.2 p (h.2.1 p hp), ⟨q, q1, q2, (hs.1 89 (by omega)).trans hq⟩, ⟨s + 1, by omega, ?_⟩, ?_, HL_st h.hl h.1.1.2.2.2.2.2.2.2 (fun j hj => hs.1 j (by omega)) (fun p _ => hs.2.1 p 0 (by omega)) (fun p _ => hs.2.1 p 3 (by omega))⟩
  · rw [sec, pk_us, z.1, hs1, nI_add]
  · rw [sec, pk_un (by omega)]; exact z.2
theorem TI_pl2 {m : Nat} : ∀ (r : Nat) (K : KK), TI K m → TI (pl m r K) m := by
  intro r
  induction r with
  | zero => intro K h; exact h
  | succ r ih =>
    intro K h
    rw [pl]
    split
    · exact h
    · next q =>
      exact ih _ (TI_sec h (by cases w : endB K with
        | false => rfl
        | true => exact absurd w q))
theorem TI_go {K : KK} {m : Nat} (h : TI K m) (x : Int32) : TI (goS K m x) m := by
  unfold goS
  split
  · split
    · exact TI_pl2 _ _ h
    · exact h
  · exact h
