/-- what holds of the reference's wood at every time, beside KR -/
def KZ (K : KK) (m : Nat) : Prop := KF K m ∧ KW K m ∧ (∀ p e, p < m → e < 2 → ¬ gP K p 5 = nI 0 → ¬ K (97 + 2 * e) = nI p) ∧ (K 87 = nI 0 ∨ K 87 = nI 1)
def KD (K : KK) (m : Nat) : Prop := KR K m ∧ KZ K m
theorem KZ_cong {K K1 : KK} {m : Nat} (h : KZ K m) (h1 : K1 87 = K 87) (h2 : K1 94 = K 94) (h3 : ∀ e, e < 2 → K1 (96 + 2 * e) = K (96 + 2 * e)) (h4 : ∀ e, e < 2 → K1 (97 + 2 * e) = K (97 + 2 * e)) (h5 : ∀ p, gP K1 p 0 = gP K p 0) (h6 : ∀ p, p < m → gP K1 p 5 = gP K p 5) : KZ K1 m := by
  obtain ⟨⟨a, b⟩, ⟨c, d⟩, e, f⟩ := h
  refine ⟨⟨fun i hi => by rw [h3 i hi]; exact a i hi, fun p i hp hi q => ?_⟩, ⟨fun i hi => by rw [h4 i hi]; exact c i hi, by rw [h2]; exact d⟩, fun p i hp hi q => ?_, by rw [h1]; exact f⟩
  · rw [h5] at q; rw [h4 i hi]; exact b p i hp hi q
  · rw [h6 p hp] at q; rw [h4 i hi]; exact e p i hp hi q
theorem KD_lo {K : KK} {m : Nat} (h : KD K m) (i : Nat) (v : Int32) (hi : i = 91 ∨ i = 92 ∨ i = 93 ∨ i = 95) : KD (upd K i v) m := by
  refine ⟨h.1.lo i v (by omega) (by omega), KZ_cong h.2 (pk_un (by omega)) (pk_un (by omega)) (fun e he => pk_un (by omega)) (fun e he => pk_un (by omega)) (fun p => gP_lo _ _ _ _ _ (by omega)) (fun p _ => gP_lo _ _ _ _ _ (by omega))⟩
theorem KD_pl {K : KK} {m : Nat} (h : KD K m) (p u : Nat) (v : Int32) (hu : u = 4 ∨ u = 6) (hv : u = 4 → cellv v) : KD (upd K (114 + 7 * p + u) v) m := by
  refine ⟨h.1.pl p u v (by omega) hv (fun q => by omega), KZ_cong h.2 (pk_un (by omega)) (pk_un (by omega)) (fun e he => pk_un (by omega)) (fun e he => pk_un (by omega)) (fun q => ?_) (fun q _ => ?_)⟩
  · rw [gP_upd _ _ _ _ _ _ (by omega) (by omega), if_neg (by omega)]
  · rw [gP_upd _ _ _ _ _ _ (by omega) (by omega), if_neg (by omega)]
theorem KD_flag {K : KK} {m : Nat} (h : KD K m) (e : Nat) (v : Int32) (he : e < 2) (hv : cellv v) : KD (upd K (96 + 2 * e) v) m := by
  obtain ⟨h1, ⟨a, b⟩, ⟨c, d⟩, x, y⟩ := h
  refine ⟨h1.lo _ v (by omega) (by omega), ⟨fun i hi => ?_, fun p i hp hi q => ?_⟩, ⟨fun i hi => by rw [pk_un (by omega)]; exact c i hi, by rw [pk_un (by omega)]; exact d⟩, fun p i hp hi q => ?_, by rw [pk_un (by omega)]; exact y⟩
  · by_cases q : i = e
    · rw [q, pk_us]; exact hv
    · rw [pk_un (by omega)]; exact a i hi
  · rw [gP_lo _ _ _ _ _ (by omega)] at q; rw [pk_un (by omega)]; exact b p i hp hi q
  · rw [gP_lo _ _ _ _ _ (by omega)] at q; rw [pk_un (by omega)]; exact x p i hp hi q
theorem neg4_ne {p : Nat} (hp : p < 2147483648) : ¬ (-4 : Int32) = nI p := by
  intro q
  exact nI_pos (n := p) (by omega) (q ▸ by decide)
theorem KD_carrN {K : KK} {m : Nat} (h : KD K m) (e : Nat) (he : e < 2) : KD (upd K (97 + 2 * e) (-4)) m := by
  obtain ⟨h1, ⟨a, b⟩, ⟨c, d⟩, x, y⟩ := h
  have hm10 := h1.2.1
  refine ⟨h1.lo _ _ (by omega) (by omega), ⟨fun i hi => by rw [pk_un (by omega)]; exact a i hi, fun p i hp hi q => ?_⟩, ⟨fun i hi => ?_, by rw [pk_un (by omega)]; exact d⟩, fun p i hp hi q => ?_, by rw [pk_un (by omega)]; exact y⟩
  · rw [gP_lo _ _ _ _ _ (by omega)] at q
    by_cases z : i = e
    · rw [z, pk_us]; exact neg4_ne (by omega)
    · rw [pk_un (by omega)]; exact b p i hp hi q
  · by_cases z : i = e
    · rw [z, pk_us]; exact Or.inl rfl
    · rw [pk_un (by omega)]; exact c i hi
  · rw [gP_lo _ _ _ _ _ (by omega)] at q
    by_cases z : i = e
    · rw [z, pk_us]; exact neg4_ne (by omega)
    · rw [pk_un (by omega)]; exact x p i hp hi q
theorem KD_carr {K : KK} {m : Nat} (h : KD K m) (e p : Nat) (he : e < 2) (hp : p < m) (hs : gP K p 0 = nI (1 - e)) (hf : gP K p 5 = nI 0) : KD (upd K (97 + 2 * e) (nI p)) m := by
  obtain ⟨h1, ⟨a, b⟩, ⟨c, d⟩, x, y⟩ := h
  have hm10 := h1.2.1
  refine ⟨h1.lo _ _ (by omega) (by omega), ⟨fun i hi => by rw [pk_un (by omega)]; exact a i hi, fun p' i hp' hi q => ?_⟩, ⟨fun i hi => ?_, by rw [pk_un (by omega)]; exact d⟩, fun p' i hp' hi q => ?_, by rw [pk_un (by omega)]; exact y⟩
  · rw [gP_lo _ _ _ _ _ (by omega)] at q
    by_cases z : i = e
    · rw [z, pk_us]
      intro w
      have w2 : p = p' := (nI_eq (by omega) (by omega)).mp w
      rw [← w2, hs, z] at q
      have := (nI_eq (by omega) (by omega)).mp q
      omega
    · rw [pk_un (by omega)]; exact b p' i hp' hi q
  · by_cases z : i = e
    · rw [z, pk_us]; exact Or.inr ⟨p, hp, rfl⟩
    · rw [pk_un (by omega)]; exact c i hi
  · rw [gP_lo _ _ _ _ _ (by omega)] at q
    by_cases z : i = e
    · rw [z, pk_us]
      intro w
      have w2 : p = p' := (nI_eq (by omega) (by omega)).mp w
      rw [← w2] at q
      exact q hf
    · rw [pk_un (by omega)]; exact x p' i hp' hi q
theorem KD_first {K : KK} {m : Nat} (h : KD K m) (v : Int32) (hv : v = -4 ∨ ∃ j : Nat, j < m ∧ v = nI j) : KD (upd K 94 v) m := by
  obtain ⟨h1, ⟨a, b⟩, ⟨c, d⟩, x, y⟩ := h
  refine ⟨h1.lo _ _ (by omega) (by omega), ⟨fun i hi => by rw [pk_un (by omega)]; exact a i hi, fun p i hp hi q => ?_⟩, ⟨fun i hi => by rw [pk_un (by omega)]; exact c i hi, by rw [pk_us]; exact hv⟩, fun p i hp hi q => ?_, by rw [pk_un (by omega)]; exact y⟩
  · rw [gP_lo _ _ _ _ _ (by omega)] at q; rw [pk_un (by omega)]; exact b p i hp hi q
  · rw [gP_lo _ _ _ _ _ (by omega)] at q; rw [pk_un (by omega)]; exact x p i hp hi q
theorem KD_held {K : KK} {m : Nat} (h : KD K m) (p : Nat) (v : Int32) (h1 : v = nI 0 → cellv (gP K p 4)) (h2 : ¬ v = nI 0 → ∀ e, e < 2 → ¬ K (97 + 2 * e) = nI p) : KD (upd K (114 + 7 * p + 5) v) m := by
  obtain ⟨hr, ⟨a, b⟩, ⟨c, d⟩, x, y⟩ := h
  refine ⟨hr.pl p 5 v (by omega) (fun q => by omega) (fun _ => h1), ⟨fun i hi => by rw [pk_un (by omega)]; exact a i hi, fun p' i hp hi q => ?_⟩, ⟨fun i hi => by rw [pk_un (by omega)]; exact c i hi, by rw [pk_un (by omega)]; exact d⟩, fun p' i hp hi q => ?_, by rw [pk_un (by omega)]; exact y⟩
  · rw [gP_upd _ _ _ _ _ _ (by omega) (by omega), if_neg (by omega)] at q
    rw [pk_un (by omega)]; exact b p' i hp hi q
  · rw [gP_upd _ _ _ _ _ _ (by omega) (by omega)] at q
    rw [pk_un (by omega)]
    by_cases z : p' = p
    · rw [if_pos ⟨z, rfl⟩] at q
      rw [z]; exact h2 q i hi
    · rw [if_neg (by omega)] at q
      exact x p' i hp hi q
theorem fpl_cell (s : Int32) : cellv (fpl s) := by
  unfold fpl
  split
  · exact ⟨37, by omega, rfl⟩
  · exact ⟨46, by omega, rfl⟩
/-- no carrier: what td leaves -/
theorem KD_td {K : KK} {m : Nat} (h : KD K m) (p e : Nat) (he : e < 2) (hc : cellv (gP K p 4)) : KD (td K p e) m ∧ ¬ td K p e (97 + 2 * e) = nI p ∨ ¬ p < 2147483648 := by
  by_cases hp : p < 2147483648
  · left
    unfold td
    split
    · refine ⟨?_, ?_⟩
      · rw [show 96 + 2 * e + 1 = 97 + 2 * e by omega]
        refine KD_flag (KD_carrN h e he) e _ he ?_
        split
        · exact fpl_cell _
        · rw [gP_lo _ _ _ _ _ (by omega)]; exact hc
      · rw [pk_un (by omega), show 97 + 2 * e = 96 + 2 * e + 1 by omega, pk_us]; exact neg4_ne hp
    · exact ⟨h, by assumption⟩
  · exact Or.inr hp
theorem td_gP (K : KK) (p e q u : Nat) (he : e < 2) : gP (td K p e) q u = gP K q u := by
  unfold td
  split
  · rw [gP_lo _ _ _ _ _ (by omega), gP_lo _ _ _ _ _ (by omega)]
  · rfl
theorem td_97 (K : KK) (p e f : Nat) (he : f ≠ e) : td K p e (97 + 2 * f) = K (97 + 2 * f) := by
  unfold td
  split
  · rw [pk_un (by omega), pk_un (by omega)]
  · rfl
theorem KD_tq {K : KK} {m : Nat} (h : KD K m) (p : Nat) (hp : p < m) (hc : cellv (gP K p 4)) : KD (tq K p) m ∧ (∀ e, e < 2 → ¬ tq K p (97 + 2 * e) = nI p) ∧ ∀ q u, gP (tq K p) q u = gP K q u := by
  have hm10 := h.1.2.1
  have h0 := KD_lo h 93 (K 93 + nI 1) (by omega)
  have hg : ∀ q u, gP (upd K 93 (K 93 + nI 1)) q u = gP K q u := fun q u => gP_lo _ _ _ _ _ (by omega)
  have h1 := (KD_td h0 p 0 (by omega) (by rw [hg]; exact hc)).resolve_right (by omega)
  have h2 := (KD_td h1.1 p (0 + 1) (by omega) (by rw [td_gP _ _ _ _ _ (by omega), hg]; exact hc)).resolve_right (by omega)
  refine ⟨h2.1, fun e he => ?_, fun q u => ?_⟩
  · by_cases z : e = 0
    · rw [z, tq, td_97 _ _ _ _ (by omega)]; exact h1.2
    · rw [show e = 0 + 1 by omega]; exact h2.2
  · rw [tq, td_gP _ _ _ _ _ (by omega), td_gP _ _ _ _ _ (by omega), hg]
theorem KD_tr {K : KK} {m : Nat} (h : KD K m) (p : Nat) (h2 : ∀ e, e < 2 → ¬ K (97 + 2 * e) = nI p) : KD (tr K p) m := by
  unfold tr
  exact KD_pl (KD_pl (KD_held h p (nI 1) (fun q => absurd q (by decide)) (fun _ => h2)) p 4 _ (by omega) (fun _ => gl_cell _)) p 6 _ (by omega) (fun q => by omega)
theorem KD_tch {K : KK} {m : Nat} (h : KD K m) (p : Nat) (hp : p < m) (hf : gP K p 5 = nI 0) : KD (tch K p) m := by
  unfold tch
  have h1 : KD (dz K) m := KD_lo h 95 _ (by omega)
  split
  · have hc : cellv (gP (dz K) p 4) := by rw [dz, gP_lo _ _ _ _ _ (by omega)]; exact h.1.2.2.2.2.1 p hp hf
    have h2 := KD_tq h1 p hp hc
    exact KD_tr h2.1 p h2.2.1
  · exact h1
theorem KD_rel {K : KK} {m : Nat} (h : KD K m) (p : Nat) (hp : p < m) : KD (rel K p) m := by
  have e : gP (upd K (114 + 7 * p + 5) (nI 0)) p 3 = gP K p 3 := by rw [gP_upd _ _ _ _ _ _ (by omega) (by omega), if_neg (by omega)]
  have hc := h.1.2.2.2.2.2.2.2 p hp
  unfold rel
  rw [e, upd_swap K (i := 114 + 7 * p + 5) (j := 114 + 7 * p + 4) (by omega)]
  refine KD_pl (KD_held (KD_pl h p 4 (gP K p 3) (by omega) (fun _ => hc)) p (nI 0) (fun _ => ?_) (fun q => absurd rfl q)) p 6 _ (by omega) (fun q => by omega)
  rw [gP_upd _ _ _ _ _ _ (by omega) (by omega), if_pos ⟨rfl, rfl⟩]
  exact hc
theorem KD_frL {m : Nat} (s : Int32) : ∀ (r p : Nat) (K : KK), KD K m → p + r ≤ m → KD (frL s r p K) m := by
  intro r
  induction r with
  | zero => intro p K h _; exact h
  | succ r ih =>
    intro p K h hp
    have h1 : KD (rel K p) m := KD_rel h p (by omega)
    rw [frL]
    split
    · split
      · split
        · exact h1
        · exact ih _ _ h1 (by omega)
      · exact ih _ _ h (by omega)
    · exact ih _ _ h (by omega)
theorem KD_mfl {K : KK} {m : Nat} (h : KD K m) (p e : Nat) (to : Int32) (he : e < 2) (ht : cellv to) : KD (mfl K p e to) m := by
  unfold mfl
  split
  · exact KD_flag h e _ he ht
  · exact h
theorem KD_mvA {K : KK} {m : Nat} (h : KD K m) (p : Nat) (to : Int32) (ht : cellv to) : KD (mvA K p to) m := by
  unfold mvA
  split
  · exact h
  · exact KD_mfl (KD_mfl (KD_pl (KD_pl h p 4 to (by omega) (fun _ => ht)) p 6 _ (by omega) (fun q => by omega)) _ _ _ (by omega) ht) _ _ _ (by omega) ht
theorem KD_mvT {K : KK} {m : Nat} (h : KD K m) (p : Nat) (to : Int32) (b : Nat) (hb : b < 2) (hp : p < m) (hs : gP K p 0 = nI (1 - b)) (hf : gP K p 5 = nI 0) : KD (mvT K p to b) m := by
  unfold mvT
  split
  · split
    · rw [show 96 + 2 * b + 1 = 97 + 2 * b by omega]
      refine KD_first (KD_carr h b p hb hp hs hf) _ ?_
      split
      · exact Or.inr ⟨p, hp, rfl⟩
      · rw [pk_un (by omega)]; exact h.2.2.1.2
    · exact h
  · exact h
theorem mfl_gP (K : KK) (p e : Nat) (to : Int32) (q u : Nat) (he : e < 2) : gP (mfl K p e to) q u = gP K q u := by
  unfold mfl
  split
  · rw [gP_lo _ _ _ _ _ (by omega)]
  · rfl
theorem mvA_gP (K : KK) (p : Nat) (to : Int32) (q u : Nat) (hu : u < 7) (hn : q = p → u ≠ 4 ∧ u ≠ 6) : gP (mvA K p to) q u = gP K q u := by
  unfold mvA
  split
  · rfl
  · rw [mfl_gP _ _ _ _ _ _ (by omega), mfl_gP _ _ _ _ _ _ (by omega), mv1, gP_upd _ _ _ _ _ _ (by omega) hu, if_neg (by omega), gP_upd _ _ _ _ _ _ (by omega) hu, if_neg (by omega)]
theorem mvA_4 (K : KK) (p : Nat) (to : Int32) : gP (mvA K p to) p 4 = to := by
  unfold mvA
  split
  · exact Eq.symm (by assumption)
  · rw [mfl_gP _ _ _ _ _ _ (by omega), mfl_gP _ _ _ _ _ _ (by omega), mv1, gP_upd _ _ _ _ _ _ (by omega) (by omega), if_neg (by omega), gP_upd _ _ _ _ _ _ (by omega) (by omega), if_pos ⟨rfl, rfl⟩]
theorem mvT_gP (K : KK) (p : Nat) (to : Int32) (b q u : Nat) (hb : b < 2) : gP (mvT K p to b) q u = gP K q u := by
  unfold mvT
  split
  · split
    · rw [gP_lo _ _ _ _ _ (by omega), gP_lo _ _ _ _ _ (by omega)]
    · rfl
  · rfl
theorem KD_mvs {K : KK} {m p : Nat} (h : KD K m) (hp : p < m) (hf : gP K p 5 = nI 0) : KD (mvs K m p) m := by
  have hc := h.1.2.2.2.2.1 p hp hf
  obtain ⟨e, he, hs⟩ := h.1.2.2.1 p hp
  have h1 := KD_mvT (KD_mvA h p (nxt K p (goal K m p)) (nxt_cell _ hc)) p (nxt K p (goal K m p)) (1 - (gP K p 0).toNatClampNeg) (by omega) hp (by rw [mvA_gP _ _ _ _ _ (by omega) (fun _ => by omega), hs, clampI (by omega), show 1 - (1 - e) = e by omega]) (by rw [mvA_gP _ _ _ _ _ (by omega) (fun _ => by omega)]; exact hf)
  unfold mvs mvF
  split
  · split
    · exact KD_frL _ _ _ _ h1 (by omega)
    · exact h1
  · exact h1
theorem KD_mtL {m : Nat} (p : Nat) (s : Int32) (b : Bool) (hp : p < m) : ∀ (r q : Nat) (K : KK), KD K m → q + r ≤ m → KD (mtL p s b r q K) m := by
  intro r
  induction r with
  | zero => intro q K h _; exact h
  | succ r ih =>
    intro q K h hq
    refine ih _ _ ?_ (by omega)
    unfold mt1
    repeat' split
    all_goals first | exact h | exact KD_tch h _ (by omega) (frB_z (by assumption))
theorem KD_acC {K : KK} {m : Nat} (h : KD K m) (p : Nat) : KD (acC K p) m := by
  unfold acC
  repeat' split
  all_goals first | exact h | exact KD_lo h 92 _ (by omega)
theorem KD_act {K : KK} {m p : Nat} (h : KD K m) (hp : p < m) (hf : gP K p 5 = nI 0) : KD (act K m p) m := by
  unfold act mts
  refine KD_acC (KD_mtL _ _ _ hp _ _ _ ?_ (by omega)) _
  split
  · exact KD_pl h p 6 _ (by omega) (fun q => by omega)
  · exact KD_mvs h hp hf
theorem KD_scL {m : Nat} : ∀ (r p : Nat) (K : KK), KD K m → p + r ≤ m → KD (scL m r p K) m := by
  intro r
  induction r with
  | zero => intro p K h _; exact h
  | succ r ih =>
    intro p K h hp
    rw [scL]
    split
    · refine ih _ _ ?_ (by omega)
      split
      · exact KD_act h (by omega) (frB_z (by assumption))
      · exact h
    · exact h
theorem KD_sec {K : KK} {m : Nat} (h : KD K m) : KD (sec K m) m := KD_lo (KD_scL m 0 K h (by omega)) 91 _ (by omega)
