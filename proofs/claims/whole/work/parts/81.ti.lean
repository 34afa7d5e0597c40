theorem TI_low {K K1 : KK} {m : Nat} (h : TI K m) (h1 : ∀ j, 90 ≤ j → (j < 100 ∨ 114 ≤ j) → K1 j = K j) (h87 : K1 87 = nI 0 ∨ K1 87 = nI 1) (h89 : ∃ q : Nat, 10 ≤ q ∧ q ≤ 600 ∧ K1 89 = nI q) (hp1 : ∀ e, e < 2 → ∃ q : Nat, q ≤ 2 ∧ K1 (100 + 7 * e) = nI q) (hp2 : ∀ e i, e < 2 → i < 2 → ∃ q : Nat, q < 8 ∧ K1 (100 + 7 * e + 2 + 3 * i) = nI q) (hH : HL K1 m) : TI K1 m := by
  obtain ⟨⟨⟨a1, a2, a3, a4, a5, a6, a7, a8⟩, ⟨b1, b2⟩, ⟨c1, c2⟩, e, g⟩, t2, t3, t4, t5, t6⟩ := h
  have hs : ∀ q u, gP K1 q u = gP K q u := fun q u => h1 _ (by omega) (by omega)
  have hl : ∀ j, 90 ≤ j → j < 100 → K1 j = K j := fun j x y => h1 j x (Or.inl y)
  exact ⟨⟨⟨(hl _ (by omega) (by omega)).trans a1, a2, fun q hq => by rw [hs]; exact a3 q hq, hp1, fun q hq y => by rw [hs] at y ⊢; exact a5 q hq y, fun q hq => by rw [hs]; exact a6 q hq, hp2, fun q hq => by rw [hs]; exact a8 q hq⟩, ⟨fun i hi => by rw [hl _ (by omega) (by omega)]; exact b1 i hi, fun q i hq hi y => by rw [hs] at y; rw [hl _ (by omega) (by omega)]; exact b2 q i hq hi y⟩, ⟨fun i hi => by rw [hl _ (by omega) (by omega)]; exact c1 i hi, by rw [hl _ (by omega) (by omega)]; exact c2⟩, fun q i hq hi y => by rw [hs] at y; rw [hl _ (by omega) (by omega)]; exact e q i hq hi y, h87⟩, fun q hq => by rw [hs]; exact t2 q hq, h89, by rw [hl _ (by omega) (by omega)]; exact t4, by rw [hl _ (by omega) (by omega)]; exact t5, hH⟩
theorem TI.hl {K : KK} {m : Nat} (h : TI K m) : HL K m := h.2.2.2.2.2
theorem HL_rule {K : KK} {m : Nat} (h : HL K m) (hc : ∀ p, p < m → cellv (gP K p 3)) (j : Nat) (v : Int32) (hj : 85 ≤ j) (hj2 : j < 90) : HL (upd K j v) m := fun p hp => by
  obtain ⟨a, b, c⟩ := h p hp
  obtain ⟨x, hx, e⟩ := hc p hp
  rw [gP_lo _ _ _ _ _ (by omega), gP_lo _ _ _ _ _ (by omega)]
  refine ⟨a, ?_, ?_⟩
  · rw [e, clampI (by omega)] at b ⊢
    rw [pk_un (by omega)]; exact b
  · unfold ring at c ⊢
    rw [pk_un (by omega)]; exact c
theorem HL_of {K : KK} {m : Nat} (h : hmA K m = true) : HL K m := fun p hp => by
  have h1 := aB_dn (f := fun p => hmB K (gP K p 0) (gP K p 3)) (show p + 1 ≤ m by omega) h
  rw [aB, Bool.and_eq_true, hmB, Bool.and_eq_true, Bool.and_eq_true] at h1
  refine ⟨of_decide_eq_true h1.2.1, fun y => ?_, ?_⟩
  · have := h1.2.2.1
    rw [decide_eq_true y] at this
    cases this
  · have := h1.2.2.2
    cases z : ring K (gP K p 0) (gP K p 3) with
    | false => rfl
    | true => rw [z] at this; cases this
theorem TI_rule {K : KK} {m : Nat} (h : TI K m) (j : Nat) (v : Int32) (hj : 1 ≤ j) (hj2 : j < 6) (h87 : j = 3 → v = nI 0 ∨ v = nI 1) (h89 : j = 5 → ∃ q : Nat, 10 ≤ q ∧ q ≤ 600 ∧ v = nI q) : TI (upd K (84 + j) v) m := by
  refine TI_low h (fun i _ _ => pk_un (by omega)) ?_ ?_ (fun e he => by rw [pk_un (by omega)]; exact h.1.1.2.2.2.1 e he) (fun e i he hi => by rw [pk_un (by omega)]; exact h.1.1.2.2.2.2.2.2.1 e i he hi) (HL_rule h.hl h.1.1.2.2.2.2.2.2.2 _ v (by omega) (by omega))
  · by_cases q : j = 3
    · subst q; rw [pk_us]; exact h87 rfl
    · rw [pk_un (by omega)]; exact h.1.2.2.2.2
  · by_cases q : j = 5
    · subst q; rw [pk_us]; exact h89 rfl
    · rw [pk_un (by omega)]; exact h.2.2.1
theorem TI_ring {K : KK} {m : Nat} (h : TI K m) (v : Int32) (hh : hmA (upd K 84 v) m = true) : TI (upd K 84 v) m := by
  refine TI_low h (fun i _ _ => pk_un (by omega)) ?_ ?_ (fun e he => by rw [pk_un (by omega)]; exact h.1.1.2.2.2.1 e he) (fun e i he hi => by rw [pk_un (by omega)]; exact h.1.1.2.2.2.2.2.2.1 e i he hi) (HL_of hh)
  · rw [pk_un (by omega)]; exact h.1.2.2.2.2
  · rw [pk_un (by omega)]; exact h.2.2.1
theorem TI_gK {K : KK} {m : Nat} (h : TI K m) (g a b : Nat) (hg : g < 4) (hh : aB (fun j => !inR a b j || mbB K m g j) 84 = true) : TI (gK K g (inR a b)) m := by
  refine TI_low h (fun i _ _ => gK_hi _ _ _ _ (by omega)) ?_ ?_ (fun e he => by rw [gK_hi _ _ _ _ (by omega)]; exact h.1.1.2.2.2.1 e he) (fun e i he hi => by rw [gK_hi _ _ _ _ (by omega)]; exact h.1.1.2.2.2.2.2.2.1 e i he hi) (HL_of ?_)
  · rw [gK_hi _ _ _ _ (by omega)]; exact h.1.2.2.2.2
  · rw [gK_hi _ _ _ _ (by omega)]; exact h.2.2.1
  · rw [hmA_gK h.hl h.1.1.2.2.2.2.2.2.2 hg (fun j hj y => ?_)]
    · exact hh
    · have h4 := aB_dn (show j + 1 ≤ 84 by omega) hh
      rw [aB, Bool.and_eq_true, y] at h4
      have h5 := h4.2
      unfold mbB at h5
      by_cases z : g = 0
      · exact Or.inl z
      · rw [decide_eq_false z] at h5
        cases w : keptB (nI j) with
        | false => exact Or.inr rfl
        | true => rw [w] at h5; simp at h5
theorem TI_pn {K : KK} {m : Nat} (h : TI K m) (s a k f q : Nat) (hs : s < 2) (hk : k < 8) (hq : q < 2) : TI (pnU K s q (nI a) (nI k) (nI f)) m := by
  have ho := pnU_out K s q (nI a) (nI k) (nI f) hq hs
  refine TI_low h (fun i _ _ => ho _ (by omega)) ?_ ?_ (fun e he => ?_) (fun e i he hi => ?_) (fun p hp => ?_)
  · rw [ho _ (by omega)]; exact h.1.2.2.2.2
  · rw [ho _ (by omega)]; exact h.2.2.1
  · by_cases y : e = s
    · subst y; exact ⟨q + 1, by omega, by unfold pnU; rw [pk_us]⟩
    · rw [ho _ (by omega)]; exact h.1.1.2.2.2.1 e he
  · by_cases y : e = s
    · subst y
      by_cases z : i = q
      · subst z
        refine ⟨k, hk, ?_⟩
        unfold pnU
        rw [pk_un (by omega), pk_un (by omega), show 100 + 7 * e + 2 + 3 * i = 100 + 7 * e + 1 + 3 * i + 1 by omega, pk_us]
      · have := h.1.1.2.2.2.2.2.2.1 e i he hi
        unfold pnU
        rw [pk_un (by omega), pk_un (by omega), pk_un (by omega), pk_un (by omega)]
        exact this
    · rw [ho _ (by omega)]; exact h.1.1.2.2.2.2.2.2.1 e i he hi
  · obtain ⟨x1, x2, x3⟩ := h.hl p hp
    obtain ⟨x, hx, e⟩ := h.1.1.2.2.2.2.2.2.2 p hp
    have hg : ∀ u, gP (pnU K s q (nI a) (nI k) (nI f)) p u = gP K p u := fun u => ho _ (by omega)
    rw [hg, hg]
    refine ⟨x1, ?_, ?_⟩
    · rw [e, clampI (by omega)] at x2 ⊢
      rw [ho _ (by omega)]; exact x2
    · unfold ring at x3 ⊢
      rw [ho _ (by omega)]; exact x3
theorem plU_lo (K : KK) (m : Nat) (s k f c : Int32) (j : Nat) (hj : j < 114) (h : j ≠ 90) : plU K m s k f c j = K j := by
  rw [plU, pk_un h, plW_out _ _ _ _ _ _ _ (by omega)]
theorem plU_gP (K : KK) (m : Nat) (s k f c : Int32) (p u : Nat) (hu : u < 7) : gP (plU K m s k f c) p u = if p = m then (if u = 0 then s else if u = 1 then k else if u = 2 then f else if u = 3 then c else if u = 4 then c else nI 0) else gP K p u := by
  rw [plU, gP_lo _ _ _ _ _ (by omega)]
  by_cases q : p = m
  · subst q
    rw [if_pos rfl]
    unfold plW
    rcases (show u = 0 ∨ u = 1 ∨ u = 2 ∨ u = 3 ∨ u = 4 ∨ u = 5 ∨ u = 6 by omega) with rfl | rfl | rfl | rfl | rfl | rfl | rfl <;> (first | (simp [gP_upd]; done) | (simp [gP_upd, gP, upd]; done))
  · rw [if_neg q]
    exact plW_out _ _ _ _ _ _ _ (by omega)
theorem TI_pl {K : KK} {m : Nat} (h : TI K m) (s k f c : Nat) (hs : s < 2) (hk : k < 8) (hm : m < 10) (hc : c < 84) (hh : hmB K (nI s) (nI c) = true) : TI (plU K m (nI s) (nI k) (nI f) (nI c)) (m + 1) := by
  have hHL := h.hl
  obtain ⟨⟨⟨a1, a2, a3, a4, a5, a6, a7, a8⟩, ⟨b1, b2⟩, ⟨c1, c2⟩, e, g⟩, t2, t3, t4, t5, t6⟩ := h
  have hl := plU_lo K m (nI s) (nI k) (nI f) (nI c)
  have hg := plU_gP K m (nI s) (nI k) (nI f) (nI c)
  have old : ∀ p, p < m + 1 → p = m ∨ p < m := fun p hp => by omega
  have nm : ∀ e', e' < 2 → ¬ K (97 + 2 * e') = nI m := fun e' he y => by
    rcases c1 e' he with z | ⟨j, hj, z⟩
    · rw [z] at y
      have := congrArg Int32.toInt y
      rw [nI_toInt (by omega)] at this
      have h4 : (-4 : Int32).toInt = -4 := by decide
      omega
    · exact absurd ((nI_eq (by omega) (by omega)).mp (z.symm.trans y)) (by omega)
  refine ⟨⟨⟨pk_us, by omega, fun q hq => ?_, fun i hi => by rw [hl _ (by omega) (by omega)]; exact a4 i hi, fun q hq y => ?_, fun q hq => ?_, fun i j hi hj => by rw [hl _ (by omega) (by omega)]; exact a7 i j hi hj, fun q hq => ?_⟩, ⟨fun i hi => by rw [hl _ (by omega) (by omega)]; exact b1 i hi, fun q i hq hi y => ?_⟩, ⟨fun i hi => ?_, ?_⟩, fun q i hq hi y => ?_, by rw [hl _ (by omega) (by omega)]; exact g⟩, fun q hq => ?_, by rw [hl _ (by omega) (by omega)]; exact t3, by rw [hl _ (by omega) (by omega)]; exact t4, by rw [hl _ (by omega) (by omega)]; exact t5, fun q hq => ?_⟩
  · rw [hg _ _ (by omega)]
    rcases old q hq with z | z
    · rw [if_pos z]; exact ⟨s, hs, rfl⟩
    · rw [if_neg (by omega)]; exact a3 q z
  · rw [hg _ _ (by omega)] at y ⊢
    rcases old q hq with z | z
    · rw [if_pos z]; exact ⟨c, hc, rfl⟩
    · rw [if_neg (by omega)] at y ⊢; exact a5 q z y
  · rw [hg _ _ (by omega)]
    rcases old q hq with z | z
    · rw [if_pos z]; exact ⟨k, hk, rfl⟩
    · rw [if_neg (by omega)]; exact a6 q z
  · rw [hg _ _ (by omega)]
    rcases old q hq with z | z
    · rw [if_pos z]; exact ⟨c, hc, rfl⟩
    · rw [if_neg (by omega)]; exact a8 q z
  · rw [hg _ _ (by omega)] at y
    rw [hl _ (by omega) (by omega)]
    rcases old q hq with z | z
    · rw [z]; exact nm i hi
    · rw [if_neg (by omega)] at y; exact b2 q i z hi y
  · rw [hl _ (by omega) (by omega)]
    rcases c1 i hi with z | ⟨j, hj, z⟩
    · exact Or.inl z
    · exact Or.inr ⟨j, by omega, z⟩
  · rw [hl _ (by omega) (by omega)]
    rcases c2 with z | ⟨j, hj, z⟩
    · exact Or.inl z
    · exact Or.inr ⟨j, by omega, z⟩
  · rw [hg _ _ (by omega)] at y
    rw [hl _ (by omega) (by omega)]
    rcases old q hq with z | z
    · rw [z]; exact nm i hi
    · rw [if_neg (by omega)] at y; exact e q i z hi y
  · rw [hg _ _ (by omega)]
    by_cases z : q = m
    · rw [if_pos z]; show ¬ nI 0 = nI 2; decide
    · rw [if_neg z]; exact t2 q hq
  · have low : ∀ x, x < 84 → plU K m (nI s) (nI k) (nI f) (nI c) (nI x).toNatClampNeg = K (nI x).toNatClampNeg := fun x hx => by rw [clampI (by omega), hl _ (by omega) (by omega)]
    have rg : ∀ x y, ring (plU K m (nI s) (nI k) (nI f) (nI c)) x y = ring K x y := fun x y => by unfold ring; rw [hl _ (by omega) (by omega)]
    rw [hg _ 0 (by omega), hg _ 3 (by omega), rg]
    rcases old q hq with z | z
    · rw [if_pos z, if_pos z]
      rw [hmB, Bool.and_eq_true, Bool.and_eq_true] at hh
      refine ⟨of_decide_eq_true hh.1, fun y => ?_, ?_⟩
      · have := hh.2.1
        rw [decide_eq_true ((low c hc).symm.trans y)] at this
        cases this
      · have := hh.2.2
        cases w : ring K (nI s) (nI c) with
        | false => exact w
        | true => rw [w] at this; cases this
    · rw [if_neg (by omega), if_neg (by omega)]
      obtain ⟨x1, x2, x3⟩ := t6 q z
      obtain ⟨x, hx, ex⟩ := a8 q z
      refine ⟨x1, ?_, x3⟩
      rw [ex] at x2 ⊢
      rw [low x hx]; exact x2
theorem TI_cm {K K1 : KK} {m c : Nat} {nb : Nat → Nat} (h : TI K m) (hL : LtOk c nb) (e : cmE c nb K m = some K1) : ∃ m1, TI K1 m1 := by
  have rl : ∀ (j : Nat) (lo hi : Int32), eRule j (nI (nb 0)) lo hi K = some K1 → wi (nI (nb 0)) lo hi = true ∧ K1 = upd K (84 + j) (nI (nb 0)) := fun j lo hi e => by
    rw [eRule] at e
    split at e
    · next q => exact ⟨q, (Option.some.inj e).symm⟩
    · cases e
  rcases hL with ⟨rfl, h0, h1, h2⟩ | ⟨hc, h0⟩ | ⟨hc, h0⟩ | ⟨rfl, h0, h1, h2, h3⟩ | ⟨rfl, h0, h1, h2, h3⟩
  · replace e : (if (begB K = false ∧ nb 0 < 4) then eG0 (nb 0) (nb 1) (nb 2) K m else none) = some K1 := e
    split at e
    · next q =>
      rw [eG0] at e
      split at e
      · next w => rw [← Option.some.inj e]; exact ⟨m, TI_gK h _ _ _ q.2 w⟩
      · cases e
    · cases e
  · rcases hc with rfl | rfl | rfl | rfl
    · replace e : eRing (nI (nb 0)) K m = some K1 := e
      rw [eRing] at e
      split at e
      · next q =>
        rw [Bool.and_eq_true, Bool.and_eq_true] at q
        rw [← Option.some.inj e]; exact ⟨m, TI_ring h _ q.2.2⟩
      · cases e
    · obtain ⟨-, rfl⟩ := rl _ _ _ e
      exact ⟨m, TI_rule h 1 _ (by omega) (by omega) (by omega) (by omega)⟩
    · obtain ⟨q, rfl⟩ := rl _ _ _ e
      refine ⟨m, TI_rule h 3 _ (by omega) (by omega) (fun _ => ?_) (by omega)⟩
      obtain ⟨j, hj, ej⟩ := wi_ex (by decide) q
      rw [ej]
      rcases (show j = 0 ∨ j = 1 by omega) with rfl | rfl
      · exact Or.inl rfl
      · exact Or.inr rfl
    · obtain ⟨-, rfl⟩ := rl _ _ _ e
      exact ⟨m, TI_rule h 4 _ (by omega) (by omega) (by omega) (by omega)⟩
  · rcases hc with rfl | rfl
    · obtain ⟨-, rfl⟩ := rl _ _ _ e
      exact ⟨m, TI_rule h 2 _ (by omega) (by omega) (by omega) (by omega)⟩
    · obtain ⟨q, rfl⟩ := rl _ _ _ e
      refine ⟨m, TI_rule h 5 _ (by omega) (by omega) (by omega) (fun _ => ?_)⟩
      obtain ⟨j, j1, j2, ej⟩ := wi_two (by omega) (by omega) q
      exact ⟨j, j1, j2, ej⟩
  · replace e : (if begB K = false then eP0 (nb 0) (nb 1) (nb 2) (nb 3) K m else none) = some K1 := e
    split at e
    · rw [eP0] at e
      split at e
      · next q =>
        rw [Bool.and_eq_true, Bool.and_eq_true, Bool.and_eq_true, decide_eq_true_eq, decide_eq_true_eq, decide_eq_true_eq] at q
        rw [← Option.some.inj e]; exact ⟨m + 1, TI_pl h _ _ _ _ (by omega) (by omega) q.2.2.1 h3 q.2.2.2⟩
      · cases e
    · cases e
  · replace e : eN0 (nb 0) (nb 1) (nb 2) (nb 3) K = some K1 := e
    rw [eN0] at e
    split at e
    · next q =>
      rw [Bool.and_eq_true, Bool.and_eq_true, Bool.and_eq_true, decide_eq_true_eq, decide_eq_true_eq, decide_eq_true_eq] at q
      obtain ⟨x, hx, ex⟩ := h.1.1.2.2.2.1 (nb 0) (by omega)
      have hx2 : x ≠ 2 := fun y => by
        have := q.2.2.2
        rw [decide_eq_true (by rw [ex, y])] at this
        cases this
      rw [← Option.some.inj e, ex, clampI (by omega)]
      exact ⟨m, TI_pn h _ _ _ _ x (by omega) (by omega) (by omega)⟩
    · cases e
