theorem V.ext {l : Launch} {M : MT} {d pc : Nat} {ls : List (Option Value)} {st : List Value} {h : MH} {n c z : Nat} {Q : Option Value → MH → Nat → Prop} {a t N : Nat} {f g : Nat → Int32} (ha : h a = some (.inl (t, N, .inl f))) (hfg : ∀ j, j < N → g j = f j) (k : V l M d pc ls st (hset h a (.inl (t, N, .inl g))) n c z Q) : V l M d pc ls st h n c z Q := by
  intro p e R s m args below meth cd D T ad adV B lsA H locs cells slots cm sm Qs C hW
  refine k p e R s m args below meth cd D T ad adV B lsA H locs cells slots cm sm Qs C ⟨hW.1, hW.2.1, fun q x hx => ?_⟩
  by_cases hq : q = a
  · subst hq
    rw [hset_self] at hx
    have hx := Option.some.inj hx
    subst hx
    have h1 := hW.2.2 q _ ha
    refine ⟨h1.1, ?_⟩
    have e : vp_cell (T t) (N, .inl g) = vp_cell (T t) (N, .inl f) := by
      simp only [vp_cell, arrV]
      congr 2
      funext j
      rw [hfg j.1 j.2]
    show H[ad q]? = some (vp_cell (T t) (N, .inl g))
    rw [e]
    exact h1.2
  · rw [hset_ne _ _ hq] at hx
    exact hW.2.2 q x hx
/-- the players go home: the first i of them -/
def bgI (K : KK) (i : Nat) : KK := fun j => if 114 ≤ j ∧ j < 114 + 7 * i then (if (j - 114) % 7 = 6 then nI 0 else if K (114 + 7 * ((j - 114) / 7) + 5) = nI 2 then K j else if (j - 114) % 7 = 5 then nI 0 else if (j - 114) % 7 = 4 then K (j - 1) else K j) else K j
def bgS (K : KK) (z : Int32) : KK := fun j => if j = 91 then nI 0 else if j = 92 then nI 2 else if j = 93 then nI 0 else if j = 94 then -4 else if j = 95 then z else if j = 96 then nI 37 else if j = 97 then -4 else if j = 98 then nI 46 else if j = 99 then -4 else K j
/-- a game's beginning -/
def bgn (K : KK) (m : Nat) (z : Int32) : KK := bgS (bgI K m) z
theorem bgI_lo (K : KK) (m j : Nat) (hj : j < 114) : bgI K m j = K j := by rw [bgI, if_neg (by omega)]
theorem bgI_hi {X K : KK} (hX : ∀ j, 114 ≤ j → X j = K j) (m j : Nat) (hj : 114 ≤ j) : bgI X m j = bgI K m j := by
  simp only [bgI]
  rw [hX j hj, hX (114 + 7 * ((j - 114) / 7) + 5) (by omega)]
  by_cases q : (j - 114) % 7 = 4
  · rw [hX (j - 1) (by omega)]
  · simp only [q, if_false]
theorem bgI_gP (K : KK) (i p u : Nat) (hu : u < 7) : gP (bgI K i) p u = if p < i then (if u = 6 then nI 0 else if gP K p 5 = nI 2 then gP K p u else if u = 5 then nI 0 else if u = 4 then gP K p 3 else gP K p u) else gP K p u := by
  have e1 : (114 + 7 * p + u - 114) % 7 = u := by omega
  have e2 : (114 + 7 * p + u - 114) / 7 = p := by omega
  have e3 : (114 ≤ 114 + 7 * p + u ∧ 114 + 7 * p + u < 114 + 7 * i) ↔ p < i := by omega
  simp only [gP, bgI, e1, e2, e3]
  by_cases q : u = 4
  · subst q
    rw [show 114 + 7 * p + 4 - 1 = 114 + 7 * p + 3 by omega]
    rfl
  · simp only [q, if_false]
theorem bgS_j (K : KK) (z : Int32) (j : Nat) (hj : j < 91 ∨ 100 ≤ j) : bgS K z j = K j := by
  simp only [bgS]
  rw [if_neg (by omega), if_neg (by omega), if_neg (by omega), if_neg (by omega), if_neg (by omega), if_neg (by omega), if_neg (by omega), if_neg (by omega), if_neg (by omega)]
theorem bgS_gP (K : KK) (z : Int32) (p u : Nat) : gP (bgS K z) p u = gP K p u := bgS_j _ _ _ (by omega)
theorem bgn_gP (K : KK) (m : Nat) (z : Int32) (p u : Nat) (hu : u < 7) : gP (bgn K m z) p u = if p < m then (if u = 6 then nI 0 else if gP K p 5 = nI 2 then gP K p u else if u = 5 then nI 0 else if u = 4 then gP K p 3 else gP K p u) else gP K p u := by
  rw [bgn, bgS_gP, bgI_gP _ _ _ _ hu]
theorem bgn_lo (K : KK) (m : Nat) (z : Int32) (j : Nat) (hj : j < 91 ∨ (100 ≤ j ∧ j < 114)) : bgn K m z j = K j := by
  rw [bgn, bgS_j _ _ _ (by omega), bgI_lo _ _ _ (by omega)]
theorem kk_cases {K K1 : KK} (h1 : ∀ j, j < 91 ∨ (100 ≤ j ∧ j < 114) → K j = K1 j) (h2 : ∀ p u, u < 7 → gP K p u = gP K1 p u) (z z1 : Int32) (hz : z = z1) : bgS K z = bgS K1 z1 := by
  subst hz
  funext j
  by_cases q : j < 91 ∨ 100 ≤ j
  · rw [bgS_j _ _ _ q, bgS_j _ _ _ q]
    by_cases q2 : j < 114
    · exact h1 j (by omega)
    · have := h2 ((j - 114) / 7) ((j - 114) % 7) (by omega)
      rw [gP, gP, show 114 + 7 * ((j - 114) / 7) + (j - 114) % 7 = j by omega] at this
      exact this
  · rcases (show j = 91 ∨ j = 92 ∨ j = 93 ∨ j = 94 ∨ j = 95 ∨ j = 96 ∨ j = 97 ∨ j = 98 ∨ j = 99 by omega) with rfl | rfl | rfl | rfl | rfl | rfl | rfl | rfl | rfl <;> rfl
theorem bg_step (K : KK) (i : Nat) (h5 : ¬ gP K i 5 = nI 2) : upd (upd (upd (bgI K i) (114 + 7 * i + 4) (gP (bgI K i) i 3)) (114 + 7 * i + 5) (nI 0)) (114 + 7 * i + 6) (nI 0) = bgI K (i + 1) := by
  funext j
  by_cases hj : 114 + 7 * i ≤ j ∧ j < 114 + 7 * i + 7
  · obtain ⟨u, hu, rfl⟩ : ∃ u, u < 7 ∧ j = 114 + 7 * i + u := ⟨j - (114 + 7 * i), by omega, by omega⟩
    show gP (upd (upd (upd (bgI K i) (114 + 7 * i + 4) (gP (bgI K i) i 3)) (114 + 7 * i + 5) (nI 0)) (114 + 7 * i + 6) (nI 0)) i u = gP (bgI K (i + 1)) i u
    rw [gP_upd _ _ _ _ _ _ (by omega) hu, gP_upd _ _ _ _ _ _ (by omega) hu, gP_upd _ _ _ _ _ _ (by omega) hu, bgI_gP _ _ _ _ hu, bgI_gP _ _ _ _ hu, bgI_gP _ _ _ _ (by omega), if_pos (show i < i + 1 by omega), if_neg (show ¬ i < i by omega), if_neg h5]
    rcases (show u = 0 ∨ u = 1 ∨ u = 2 ∨ u = 3 ∨ u = 4 ∨ u = 5 ∨ u = 6 by omega) with rfl | rfl | rfl | rfl | rfl | rfl | rfl <;> simp
  · rw [pk_un (by omega), pk_un (by omega), pk_un (by omega)]
    have e : (114 ≤ j ∧ j < 114 + 7 * (i + 1)) ↔ (114 ≤ j ∧ j < 114 + 7 * i) := by omega
    simp only [bgI, e]
theorem bgS_I (K : KK) (m : Nat) : bgI (upd (upd (upd (upd (upd (upd (upd (upd K 91 (nI 0)) 92 (nI 2)) 93 (nI 0)) 94 (-4)) (96 + 2 * 0) (fpl (nI 0))) (96 + 2 * 0 + 1) (-4)) (96 + 2 * 1) (fpl (nI 1))) (96 + 2 * 1 + 1) (-4)) m = bgn K m (K 95) := by
  funext j
  by_cases hj : j < 114
  · rw [bgI_lo _ _ _ hj, fp0, fp1]
    by_cases q : j < 91 ∨ 100 ≤ j
    · rw [bgn_lo _ _ _ _ (by omega)]
      repeat rw [pk_un (by omega)]
    · rcases (show j = 91 ∨ j = 92 ∨ j = 93 ∨ j = 94 ∨ j = 95 ∨ j = 96 ∨ j = 97 ∨ j = 98 ∨ j = 99 by omega) with rfl | rfl | rfl | rfl | rfl | rfl | rfl | rfl | rfl <;> rfl
  · rw [bgn, bgS_j _ _ _ (by omega)]
    refine bgI_hi (fun i hi => ?_) _ _ (by omega)
    repeat rw [pk_un (by omega)]
theorem bgn_z (K : KK) (m : Nat) (z z1 : Int32) : upd (bgn K m z) 95 z1 = bgn K m z1 := by
  funext j
  by_cases q : j = 95
  · subst q; rw [pk_us]; rfl
  · rw [pk_un q]
    simp only [bgn, bgS, q, if_false]
theorem bgn_sta {m : Nat} {K K1 : KK} (g : Sta m K K1) (z : Int32) : bgn K1 m z = bgn K m z := by
  refine kk_cases (fun j hj => ?_) (fun p u hu => ?_) _ _ rfl
  · rw [bgI_lo _ _ _ (by omega), bgI_lo _ _ _ (by omega)]; exact g.1 j (by omega)
  · rw [bgI_gP _ _ _ _ hu, bgI_gP _ _ _ _ hu]
    by_cases hp : p < m
    · rw [if_pos hp, if_pos hp]
      by_cases q : gP K p 5 = nI 2
      · rw [if_pos q, if_pos ((g.2.2.1 p 5 (by omega) q).trans q), g.2.2.1 p u hu q]
      · rw [if_neg q, if_neg (g.2.2.2 p q), g.2.1 p 3 (by omega)]
        rcases (show u = 0 ∨ u = 1 ∨ u = 2 ∨ u = 3 ∨ u = 4 ∨ u = 5 ∨ u = 6 by omega) with rfl | rfl | rfl | rfl | rfl | rfl | rfl <;> first | rfl | exact (g.2.1 p _ (by omega))
    · rw [if_neg hp, if_neg hp]
      exact g.1 _ (by omega)
theorem bgn_bgn (K : KK) (m : Nat) (z z1 : Int32) : bgn (bgn K m z) m z1 = bgn K m z1 := by
  refine kk_cases (fun j hj => ?_) (fun p u hu => ?_) _ _ rfl
  · rw [bgI_lo _ _ _ (by omega), bgn_lo _ _ _ _ hj, bgI_lo _ _ _ (by omega)]
  · rw [bgI_gP _ _ _ _ hu, bgI_gP _ _ _ _ hu]
    by_cases hp : p < m
    · simp only [bgn_gP _ _ _ _ _ (show 5 < 7 by omega), bgn_gP _ _ _ _ _ (show 3 < 7 by omega), bgn_gP _ _ _ _ _ hu, hp, if_true]
      by_cases q : gP K p 5 = nI 2
      · simp [q]
        exact fun a b => absurd a b
      · have q0 : ¬ nI 0 = nI 2 := by decide
        simp [q, q0]
        rcases (show u = 0 ∨ u = 1 ∨ u = 2 ∨ u = 3 ∨ u = 4 ∨ u = 5 ∨ u = 6 by omega) with rfl | rfl | rfl | rfl | rfl | rfl | rfl <;> simp
    · rw [if_neg hp, if_neg hp, bgn_gP _ _ _ _ _ hu, if_neg hp]
theorem KD_bgn {K : KK} {m : Nat} (h : KD K m) (z : Int32) : KD (bgn K m z) m := by
  obtain ⟨⟨a1, a2, a3, a4, a5, a6, a7, a8⟩, ⟨b1, b2⟩, ⟨c1, c2⟩, e, g⟩ := h
  have hs : ∀ p u, u < 4 → gP (bgn K m z) p u = gP K p u := fun p u hu => by
    rw [bgn_gP _ _ _ _ _ (by omega)]
    split
    · rw [if_neg (by omega)]
      split
      · rfl
      · rw [if_neg (by omega), if_neg (by omega)]
    · rfl
  have hc : ∀ i, i < 2 → bgn K m z (97 + 2 * i) = -4 := fun i hi => by
    rcases (show i = 0 ∨ i = 1 by omega) with rfl | rfl <;> rfl
  refine ⟨⟨(bgn_lo _ _ _ _ (by omega)).trans a1, a2, fun p hp => by rw [hs p 0 (by omega)]; exact a3 p hp, fun i hi => by rw [bgn_lo _ _ _ _ (by omega)]; exact a4 i hi, fun p hp q => ?_, fun p hp => by rw [hs p 1 (by omega)]; exact a6 p hp, fun i j hi hj => by rw [bgn_lo _ _ _ _ (by omega)]; exact a7 i j hi hj, fun p hp => by rw [hs p 3 (by omega)]; exact a8 p hp⟩, ⟨fun i hi => ?_, fun p i hp hi _ => ?_⟩, ⟨fun i hi => Or.inl (hc i hi), Or.inl rfl⟩, fun p i hp hi _ => ?_, by rw [bgn_lo _ _ _ _ (by omega)]; exact g⟩
  · rw [bgn_gP _ _ _ _ _ (by omega), if_pos hp, if_neg (by omega)] at q ⊢
    by_cases q2 : gP K p 5 = nI 2
    · rw [if_pos q2, q2] at q
      exact absurd q (by decide)
    · rw [if_neg q2, if_neg (by omega), if_pos rfl]
      exact a8 p hp
  · rcases (show i = 0 ∨ i = 1 by omega) with rfl | rfl
    · exact ⟨37, by omega, rfl⟩
    · exact ⟨46, by omega, rfl⟩
  · rw [hc i hi]; exact neg4_ne (by omega)
  · rw [hc i hi]; exact neg4_ne (by omega)
theorem PR_lo {K K1 : KK} {P : Nat → Int32} {pn : Nat} (h : PR K P pn) (g : ∀ j, 100 ≤ j → j < 114 → K1 j = K j) : PR K1 P pn := by
  obtain ⟨a, b, c, d⟩ := h
  refine ⟨a, fun e he => ?_, c, fun i e hi he q => ?_⟩
  · rw [g _ (by omega) (by omega)]; exact b e he
  · have hlt : cntS P e i < 2 := by
      have h1 : cntS P e (i + 1) ≤ 2 := Nat.le_trans (cntS_mono P e (by omega)) (b e he).2
      rw [cntS, if_pos q] at h1
      omega
    rw [g _ (by omega) (by omega), g _ (by omega) (by omega), g _ (by omega) (by omega)]
    exact d i e hi he q
theorem PR_bgn {K : KK} {P : Nat → Int32} {pn : Nat} (h : PR K P pn) (m : Nat) (z : Int32) : PR (bgn K m z) P pn := PR_lo h (fun j h1 h2 => bgn_lo _ _ _ _ (by omega))
/-- seconds until it is over, at most r -/
def pl (m : Nat) : Nat → KK → KK
  | 0, K => K
  | r + 1, K => if endB K = true then K else pl m r (sec K m)
theorem Sta_play {m : Nat} {K : KK} : ∀ (r : Nat) (K1 : KK), Sta m K K1 → Sta m K (pl m r K1) := by
  intro r
  induction r with
  | zero => intro K1 h; exact h
  | succ r ih =>
    intro K1 h
    rw [pl]
    split
    · exact h
    · exact ih _ (Sta_sec K1 h)
theorem KD_play {m : Nat} : ∀ (r : Nat) (K : KK), KD K m → KD (pl m r K) m := by
  intro r
  induction r with
  | zero => intro K h; exact h
  | succ r ih =>
    intro K h
    rw [pl]
    split
    · exact h
    · exact ih _ (KD_sec h)
/-- a game's end -/
def fin (K : KK) (m : Nat) (z : Int32) : KK := pl m 600 (bgn K m z)
theorem bgn_fin (K : KK) (m : Nat) (z z1 : Int32) : bgn (fin K m z) m z1 = bgn K m z1 := (bgn_sta (Sta_play 600 _ (Sta_rf m _)) z1).trans (bgn_bgn K m z z1)
theorem sec_91 {K : KK} {m : Nat} (hK : KR K m) : sec K m 91 = K 91 + nI 1 := by rw [sec, pk_us, scL_91 _ _ _ _ hK (by omega)]
theorem sec_89 (K : KK) (m : Nat) : sec K m 89 = K 89 := (Sta_sec K (Sta_rf m K)).1 89 (by omega)
set_option maxRecDepth 20000 in
set_option maxHeartbeats 4000000 in
theorem s6_begins_loop (l : Launch) (d n a m : Nat) (K : KK) (hm0 : K 90 = nI m) (hm10 : m ≤ 10) (h2 : ∀ p, p < m → ¬ gP K p 5 = nI 2) : ∀ (r i : Nat) (h : MH), h a = some (kc (bgI K i)) → i + r = m → V l mX6_begins (d + 1) 60 [some (.ref a), some (.int (nI i))] [] h n 0 0 (Pu (hset h a (kc (bgI K m))) n) := by
  intro r
  induction r with
  | zero =>
    intro i h ha hi
    have hm : bgI K i 90 = nI m := (bgI_lo _ _ _ (by omega)).trans hm0
    refine V.iload_n dX6_begins_60 rfl ?_
    refine V.aload_n dX6_begins_61 rfl ?_
    refine V.bipush (v := nI 90) dX6_begins_62 (by decide) ?_
    refine V.ialdN dX6_begins_64 ha (by omega) (by decide) ?_
    rw [hm]
    refine V.icmp_geN (tgt := 101) dX6_begins_65 (by decide) (by omega) (by omega) (fun _ => ?_) (fun q => absurd q (by omega))
    exact V.vretP (by exact dX6_begins_101) rfl (by rw [show m = i by omega]; exact (hset_id ha).symm)
  | succ r ih =>
    intro i h ha hi
    have hm : bgI K i 90 = nI m := (bgI_lo _ _ _ (by omega)).trans hm0
    refine V.iload_n dX6_begins_60 rfl ?_
    refine V.aload_n dX6_begins_61 rfl ?_
    refine V.bipush (v := nI 90) dX6_begins_62 (by decide) ?_
    refine V.ialdN dX6_begins_64 ha (by omega) (by decide) ?_
    rw [hm]
    refine V.icmp_geN (tgt := 101) dX6_begins_65 (by decide) (by omega) (by omega) (fun q => absurd q (by omega)) (fun _ => ?_)
    refine V.aload_n dX6_begins_68 rfl ?_
    refine V.iload_n dX6_begins_69 rfl ?_
    refine V.iconst (v := nI 4) dX6_begins_70 (by decide) ?_
    refine V.aload_n dX6_begins_71 rfl ?_
    refine V.iload_n dX6_begins_72 rfl ?_
    refine V.iconst (v := nI 3) dX6_begins_73 (by decide) ?_
    refine V.callSv [_, _, _] dX6_begins_74 lk_X6_82 rfl (Nat.le_of_ble_eq_true rfl) (Nat.le_of_ble_eq_true rfl) (s6_get _ _ _ _ _ _ ha _ _ (by omega) (by omega)) ?_
    refine V.callSu [_, _, _, _] dX6_begins_77 lk_X6_86 rfl (Nat.le_of_ble_eq_true rfl) (Nat.le_of_ble_eq_true rfl) (s6_puts _ _ _ _ _ _ ha _ _ _ (by omega) (by omega)) ?_
    refine V.aload_n dX6_begins_80 rfl ?_
    refine V.iload_n dX6_begins_81 rfl ?_
    refine V.iconst (v := nI 5) dX6_begins_82 (by decide) ?_
    refine V.iconst (v := nI 0) dX6_begins_83 (by decide) ?_
    refine V.callSu [_, _, _, _] dX6_begins_84 lk_X6_86 rfl (Nat.le_of_ble_eq_true rfl) (Nat.le_of_ble_eq_true rfl) (s6_puts _ _ _ _ _ _ (hset_self _ _ _) _ _ _ (by omega) (by omega)) ?_
    refine V.aload_n dX6_begins_87 rfl ?_
    refine V.iload_n dX6_begins_88 rfl ?_
    refine V.bipush (v := nI 6) dX6_begins_89 (by decide) ?_
    refine V.iconst (v := nI 0) dX6_begins_91 (by decide) ?_
    refine V.callSu [_, _, _, _] dX6_begins_92 lk_X6_86 rfl (Nat.le_of_ble_eq_true rfl) (Nat.le_of_ble_eq_true rfl) (s6_puts _ _ _ _ _ _ (hset_self _ _ _) _ _ _ (by omega) (by omega)) ?_
    refine V.inN1 dX6_begins_95 (by decide) rfl ?_
    refine V.goto (tgt := 60) dX6_begins_98 (by decide) ?_
    rw [hset_hset, hset_hset, bg_step K i (h2 i (by omega))]
    exact V.quH (by rw [hset_hset]) (ih (i + 1) _ (hset_self _ _ _) (by omega))
set_option maxRecDepth 20000 in
set_option maxHeartbeats 4000000 in
theorem s6_begins (l : Launch) (d : Nat) (h : MH) (n a : Nat) (K : KK) (ha : h a = some (kc K)) (m : Nat) (hm : K 90 = nI m) (hm10 : m ≤ 10) (h2 : ∀ p, p < m → ¬ gP K p 5 = nI 2) : Sp l mX6_begins (d + 1) [.ref a] h n 0 0 (Pu (hset h a (kc (bgn K m (K 95)))) n) := by
  show V _ _ _ _ [some (.ref a), none] _ _ _ _ _ _
  refine V.aload_n dX6_begins_0 rfl ?_
  refine V.bipush (v := nI 91) dX6_begins_1 (by decide) ?_
  refine V.iconst (v := nI 0) dX6_begins_3 (by decide) ?_
  refine V.iastN dX6_begins_4 ha (by omega) (by decide) ?_
  refine V.aload_n dX6_begins_5 rfl ?_
  refine V.bipush (v := nI 92) dX6_begins_6 (by decide) ?_
  refine V.iconst (v := nI 2) dX6_begins_8 (by decide) ?_
  refine V.iastN dX6_begins_9 (hset_self _ _ _) (by omega) (by decide) ?_
  refine V.aload_n dX6_begins_10 rfl ?_
  refine V.bipush (v := nI 93) dX6_begins_11 (by decide) ?_
  refine V.iconst (v := nI 0) dX6_begins_13 (by decide) ?_
  refine V.iastN dX6_begins_14 (hset_self _ _ _) (by omega) (by decide) ?_
  refine V.aload_n dX6_begins_15 rfl ?_
  refine V.bipush (v := nI 94) dX6_begins_16 (by decide) ?_
  refine V.bipush (v := -4) dX6_begins_18 (by decide) ?_
  refine V.iastN dX6_begins_20 (hset_self _ _ _) (by omega) (by decide) ?_
  refine V.iconst (v := nI 0) dX6_begins_21 (by decide) ?_
  refine V.ist1 dX6_begins_22 (by decide) rfl ?_
  refine V.iload_n dX6_begins_23 rfl ?_
  refine V.iconst (v := nI 2) dX6_begins_24 (by decide) ?_
  refine V.icmp_ge (tgt := 58) dX6_begins_25 (by decide) (fun q => absurd q (by decide)) (fun _ => ?_)
  refine V.aload_n dX6_begins_28 rfl ?_
  refine V.bipush (v := nI 96) dX6_begins_29 (by decide) ?_
  refine V.iconst (v := nI 2) dX6_begins_31 (by decide) ?_
  refine V.iload_n dX6_begins_32 rfl ?_
  refine V.imulN dX6_begins_33 ?_
  refine V.iaddN dX6_begins_34 ?_
  refine V.iload_n dX6_begins_35 rfl ?_
  refine V.callSv [_] dX6_begins_36 lk_X6_72 rfl (Nat.le_of_ble_eq_true rfl) (Nat.le_of_ble_eq_true rfl) (s6_flagPlace _ _ _ _ _) ?_
  refine V.iastN dX6_begins_39 (hset_self _ _ _) (by omega) (by decide) ?_
  refine V.aload_n dX6_begins_40 rfl ?_
  refine V.bipush (v := nI 96) dX6_begins_41 (by decide) ?_
  refine V.iconst (v := nI 2) dX6_begins_43 (by decide) ?_
  refine V.iload_n dX6_begins_44 rfl ?_
  refine V.imulN dX6_begins_45 ?_
  refine V.iaddN dX6_begins_46 ?_
  refine V.iconst (v := nI 1) dX6_begins_47 (by decide) ?_
  refine V.iaddN dX6_begins_48 ?_
  refine V.bipush (v := -4) dX6_begins_49 (by decide) ?_
  refine V.iastN dX6_begins_51 (hset_self _ _ _) (by omega) (by decide) ?_
  refine V.inN1 dX6_begins_52 (by decide) rfl ?_
  refine V.goto (tgt := 23) dX6_begins_55 (by decide) ?_
  refine V.iload_n dX6_begins_23 rfl ?_
  refine V.iconst (v := nI 2) dX6_begins_24 (by decide) ?_
  refine V.icmp_ge (tgt := 58) dX6_begins_25 (by decide) (fun q => absurd q (by decide)) (fun _ => ?_)
  refine V.aload_n dX6_begins_28 rfl ?_
  refine V.bipush (v := nI 96) dX6_begins_29 (by decide) ?_
  refine V.iconst (v := nI 2) dX6_begins_31 (by decide) ?_
  refine V.iload_n dX6_begins_32 rfl ?_
  refine V.imulN dX6_begins_33 ?_
  refine V.iaddN dX6_begins_34 ?_
  refine V.iload_n dX6_begins_35 rfl ?_
  refine V.callSv [_] dX6_begins_36 lk_X6_72 rfl (Nat.le_of_ble_eq_true rfl) (Nat.le_of_ble_eq_true rfl) (s6_flagPlace _ _ _ _ _) ?_
  refine V.iastN dX6_begins_39 (hset_self _ _ _) (by omega) (by decide) ?_
  refine V.aload_n dX6_begins_40 rfl ?_
  refine V.bipush (v := nI 96) dX6_begins_41 (by decide) ?_
  refine V.iconst (v := nI 2) dX6_begins_43 (by decide) ?_
  refine V.iload_n dX6_begins_44 rfl ?_
  refine V.imulN dX6_begins_45 ?_
  refine V.iaddN dX6_begins_46 ?_
  refine V.iconst (v := nI 1) dX6_begins_47 (by decide) ?_
  refine V.iaddN dX6_begins_48 ?_
  refine V.bipush (v := -4) dX6_begins_49 (by decide) ?_
  refine V.iastN dX6_begins_51 (hset_self _ _ _) (by omega) (by decide) ?_
  refine V.inN1 dX6_begins_52 (by decide) rfl ?_
  refine V.goto (tgt := 23) dX6_begins_55 (by decide) ?_
  refine V.iload_n dX6_begins_23 rfl ?_
  refine V.iconst (v := nI 2) dX6_begins_24 (by decide) ?_
  refine V.icmp_ge (tgt := 58) dX6_begins_25 (by decide) (fun _ => ?_) (fun q => absurd q (by decide))
  refine V.iconst (v := nI 0) dX6_begins_58 (by decide) ?_
  refine V.ist1 dX6_begins_59 (by decide) rfl ?_
  simp only [hset_hset]
  have e0 : ∀ X : KK, bgI X 0 = X := fun X => by
    funext j
    rw [bgI, if_neg (by omega)]
  refine V.quH ?_ (s6_begins_loop l d n a m _ ?_ hm10 ?_ m 0 _ (by rw [e0]; exact hset_self _ _ _) (by omega))
  · rw [hset_hset, ← bgS_I]
  · (repeat rw [pk_un (by omega)]); exact hm
  · intro p hp
    (repeat rw [gP_lo _ _ _ _ _ (by omega)]); exact h2 p hp
