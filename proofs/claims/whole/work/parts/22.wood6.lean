theorem V.qu2 {l : Launch} {M : MT} {d pc : Nat} {ls : List (Option Value)} {st : List Value} {h h2 h3 : MH} {n c z k : Nat} (q : V l M d pc ls st h n c z (Pu h2 k)) (e : h2 = h3) : V l M d pc ls st h n c z (Pu h3 k) := e ▸ q
/-- ranges of the reference's wood, m players -/
def KR (K : KK) (m : Nat) : Prop := K 90 = nI m ∧ m ≤ 10 ∧ (∀ p, p < m → ∃ e : Nat, e < 2 ∧ gP K p 0 = nI e) ∧ (∀ e, e < 2 → ∃ q : Nat, q ≤ 2 ∧ K (100 + 7 * e) = nI q) ∧ (∀ p, p < m → gP K p 5 = nI 0 → cellv (gP K p 4)) ∧ (∀ p, p < m → ∃ q : Nat, q < 8 ∧ gP K p 1 = nI q) ∧ (∀ e i, e < 2 → i < 2 → ∃ q : Nat, q < 8 ∧ K (100 + 7 * e + 2 + 3 * i) = nI q) ∧ (∀ p, p < m → cellv (gP K p 3))
theorem gP_lo (K : KK) (i : Nat) (v : Int32) (p w : Nat) (hi : i < 114) : gP (upd K i v) p w = gP K p w := pk_un (by omega)
theorem gP_upd (K : KK) (p w : Nat) (v : Int32) (q u : Nat) (hw : w < 7) (hu : u < 7) : gP (upd K (114 + 7 * p + w) v) q u = if q = p ∧ u = w then v else gP K q u := by
  unfold gP upd
  by_cases e : q = p ∧ u = w
  · obtain ⟨rfl, rfl⟩ := e
    simp
  · rw [if_neg e, if_neg (by omega)]
theorem KR.lo {K : KK} {m : Nat} (h : KR K m) (i : Nat) (v : Int32) (hi : i < 100) (h90 : i ≠ 90) : KR (upd K i v) m := by
  obtain ⟨h1, h2, h3, h4, h5, h6, h7, h8⟩ := h
  refine ⟨by rw [pk_un (by omega)]; exact h1, h2, fun p hp => by rw [gP_lo _ _ _ _ _ (by omega)]; exact h3 p hp, fun e he => by rw [pk_un (by omega)]; exact h4 e he, fun p hp hf => ?_, fun p hp => by rw [gP_lo _ _ _ _ _ (by omega)]; exact h6 p hp, fun e i2 he hi2 => by rw [pk_un (by omega)]; exact h7 e i2 he hi2, fun p hp => by rw [gP_lo _ _ _ _ _ (by omega)]; exact h8 p hp⟩
  rw [gP_lo _ _ _ _ _ (by omega)] at hf ⊢
  exact h5 p hp hf
/-- a player's own number w: 4 where it is, 5 whether it is held, 6 what is left -/
theorem KR.pl {K : KK} {m : Nat} (h : KR K m) (p w : Nat) (v : Int32) (hw : w = 4 ∨ w = 5 ∨ w = 6) (hv : w = 4 → cellv v) (hv5 : w = 5 → v = nI 0 → cellv (gP K p 4)) : KR (upd K (114 + 7 * p + w) v) m := by
  obtain ⟨h1, h2, h3, h4, h5, h6, h7, h8⟩ := h
  refine ⟨by rw [pk_un (by omega)]; exact h1, h2, fun q hq => ?_, fun e he => by rw [pk_un (by omega)]; exact h4 e he, fun q hq hf => ?_, fun q hq => ?_, fun e i2 he hi2 => by rw [pk_un (by omega)]; exact h7 e i2 he hi2, fun q hq => ?_⟩
  · rw [gP_upd _ _ _ _ _ _ (by omega) (by omega), if_neg (by omega)]; exact h3 q hq
  · rw [gP_upd _ _ _ _ _ _ (by omega) (by omega)] at hf ⊢
    rcases hw with rfl | rfl | rfl
    · by_cases e : q = p
      · rw [if_pos ⟨e, rfl⟩]; exact hv rfl
      · rw [if_neg (by omega)] at hf ⊢; exact h5 q hq hf
    · rw [if_neg (by omega)]
      by_cases e : q = p
      · rw [if_pos ⟨e, rfl⟩] at hf
        rw [e]; exact hv5 rfl hf
      · rw [if_neg (by omega)] at hf; exact h5 q hq hf
    · rw [if_neg (by omega)] at hf ⊢; exact h5 q hq hf
  · rw [gP_upd _ _ _ _ _ _ (by omega) (by omega), if_neg (by omega)]; exact h6 q hq
  · rw [gP_upd _ _ _ _ _ _ (by omega) (by omega), if_neg (by omega)]; exact h8 q hq
theorem plV_kind {K : KK} {m : Nat} (h : KR K m) {e : Nat} (he : e < 2) (held v0 : Int32) (hv : ∃ q : Nat, q < 8 ∧ v0 = nI q) : ∀ i, i ≤ 2 → ∃ q : Nat, q < 8 ∧ plV K (100 + 7 * e) held 0 v0 i = nI q := by
  intro i
  induction i with
  | zero => intro _; exact hv
  | succ i ih =>
    intro hi
    rw [plV]
    split
    · exact h.2.2.2.2.2.2.1 e i he (by omega)
    · exact ih (by omega)
theorem role_kind {K : KK} {m p : Nat} (h : KR K m) (hp : p < m) : ∃ q : Nat, q < 8 ∧ role K m p 0 = nI q := by
  rw [role]
  split
  · obtain ⟨e, he, hs⟩ := h.2.2.1 p hp
    obtain ⟨q, hq, hk⟩ := h.2.2.2.1 e he
    rw [hs, clampI (by omega), hk, clampI (by omega)]
    exact plV_kind h he _ _ (h.2.2.2.2.2.1 p hp) q hq
  · exact h.2.2.2.2.2.1 p hp
theorem cEn_ex {K : KK} {p : Nat} {x y : Int32} (h : cEn K p x y = true) : ∃ xn yn : Nat, xn ≤ 11 ∧ yn ≤ 6 ∧ x = nI xn ∧ y = nI yn := by
  simp only [cEn, Bool.and_eq_true] at h
  obtain ⟨a, b, c⟩ := h
  obtain ⟨xn, h1, h2⟩ := wi_ex (by decide) a
  obtain ⟨yn, h3, h4⟩ := wi_ex (by decide) b
  exact ⟨xn, yn, h1, h3, h2, h4⟩
theorem nxt_cell {K : KK} {p : Nat} (g : Int32) (h : cellv (gP K p 4)) : cellv (nxt K p g) := by
  have hX : tX K p g = true → cellv (vX K p g) := by
    intro q
    simp only [tX, Bool.and_eq_true] at q
    obtain ⟨xn, yn, h1, h2, e1, e2⟩ := cEn_ex q.2
    refine ⟨12 * yn + xn, by omega, ?_⟩
    rw [vX, e2, Int32.add_assoc, e1, pk_mul, nI_add]
  have hY : tY K p g = true → cellv (vY K p g) := by
    intro q
    simp only [tY, Bool.and_eq_true] at q
    obtain ⟨xn, yn, h1, h2, e1, e2⟩ := cEn_ex q.2
    refine ⟨12 * yn + xn, by omega, ?_⟩
    rw [vY, e2, Int32.add_assoc, e1, pk_mul, nI_add]
  unfold nxt
  split
  · split
    · exact hX (by assumption)
    · split
      · exact hY (by assumption)
      · exact h
  · split
    · exact hY (by assumption)
    · split
      · exact hX (by assumption)
      · exact h
/-- a step -/
def mv1 (K : KK) (p : Nat) (to : Int32) : KK := upd (upd K (114 + 7 * p + 4) to) (114 + 7 * p + 6) (if (upd K (114 + 7 * p + 4) to) to.toNatClampNeg = nI 2 then nI 1 else nI 0)
def mfl (K : KK) (p e : Nat) (to : Int32) : KK := if K (97 + 2 * e) = nI p then upd K (96 + 2 * e) to else K
def mvA (K : KK) (p : Nat) (to : Int32) : KK := if to = gP K p 4 then K else mfl (mfl (mv1 K p to) p 0 to) p (0 + 1) to
def mvT (K : KK) (p : Nat) (to : Int32) (b : Nat) : KK := if K (97 + 2 * b) < 0 then (if K (96 + 2 * b) = to then upd (upd K (96 + 2 * b + 1) (nI p)) 94 (if (upd K (96 + 2 * b + 1) (nI p)) 94 < 0 then nI p else (upd K (96 + 2 * b + 1) (nI p)) 94) else K) else K
def mvF (K : KK) (m : Nat) (to s : Int32) (b : Nat) : KK := if to = gl (nI b) then (if 0 < nI (cntH K s m) then frL s m 0 K else K) else K
def mvs (K : KK) (m p : Nat) : KK := mvF (mvT (mvA K p (nxt K p (goal K m p))) p (nxt K p (goal K m p)) (1 - (gP K p 0).toNatClampNeg)) m (nxt K p (goal K m p)) (gP K p 0) (1 - (gP K p 0).toNatClampNeg)
set_option maxRecDepth 20000 in
set_option maxHeartbeats 4000000 in
theorem s6_moves_c (l : Launch) (d : Nat) (h : MH) (n a : Nat) (K : KK) (ha : h a = some (kc K)) (p e m : Nat) (to : Int32) (hm : K 90 = nI m) (hm10 : m ≤ 10) : V l mX6_moves (d + 2) 147 [some (.ref a), some (.int (nI p)), some (.int (nI e)), some (.int to), some (.int (nI (1 - e)))] [] h n 0 0 (Pu (hset h a (kc (mvF K m to (nI e) (1 - e)))) n) := by
  refine V.iload_n dX6_moves_147 rfl ?_
  refine V.iload dX6_moves_148 rfl ?_
  refine V.callSv [_] dX6_moves_150 lk_X6_75 rfl (Nat.le_of_ble_eq_true rfl) (Nat.le_of_ble_eq_true rfl) (s6_gaolOf _ _ _ _ _) ?_
  refine V.icmp_ne (tgt := 169) dX6_moves_153 (by decide) (fun c153 => ?_) (fun c153 => ?_)
  · exact V.vretP (by exact dX6_moves_169) rfl (by (try simp only [← Int32.not_le, Classical.not_not] at c153 ⊢); simp only [hset_hset, mvF, ← Int32.not_le, c153, not_true_eq_false, not_false_eq_true, if_true, if_false, decide_true, decide_false, Bool.and_true, Bool.and_false, Bool.true_and, Bool.false_and, Bool.or_true, Bool.or_false, Bool.true_or, Bool.false_or, Bool.not_true, Bool.not_false, and_true, and_false, true_and, false_and, or_true, or_false, true_or, false_or, bIt, bIf, Bool.false_eq_true, reduceCtorEq] <;> first | rfl | exact hset_id ha | exact (hset_id ha).symm)
  · refine V.aload_n dX6_moves_156 rfl ?_
    refine V.iload_n dX6_moves_157 rfl ?_
    refine V.callSv [_, _] dX6_moves_158 lk_X6_174 rfl (Nat.le_of_ble_eq_true rfl) (Nat.le_of_ble_eq_true rfl) (s6_heldOf _ _ _ _ _ _ ha _ _ (by (repeat rw [pk_un (by omega)]); exact hm) (by assumption)) ?_
    refine V.if_le (tgt := 169) dX6_moves_161 (by decide) (fun c161 => ?_) (fun c161 => ?_)
    · exact V.vretP (by exact dX6_moves_169) rfl (by (try simp only [← Int32.not_le, Classical.not_not] at c153 c161 ⊢); simp only [hset_hset, mvF, ← Int32.not_le, eq_true c153, c161, not_true_eq_false, not_false_eq_true, if_true, if_false, decide_true, decide_false, Bool.and_true, Bool.and_false, Bool.true_and, Bool.false_and, Bool.or_true, Bool.or_false, Bool.true_or, Bool.false_or, Bool.not_true, Bool.not_false, and_true, and_false, true_and, false_and, or_true, or_false, true_or, false_or, bIt, bIf, Bool.false_eq_true, reduceCtorEq] <;> first | rfl | exact hset_id ha | exact (hset_id ha).symm)
    · refine V.aload_n dX6_moves_164 rfl ?_
      refine V.iload_n dX6_moves_165 rfl ?_
      refine V.callSu [_, _] dX6_moves_166 lk_X6_233 rfl (Nat.le_of_ble_eq_true rfl) (Nat.le_of_ble_eq_true rfl) (s6_frees _ _ _ _ _ _ ha _ _ (by (repeat rw [pk_un (by omega)]); exact hm) (by assumption)) ?_
      exact V.vretP (by exact dX6_moves_169) rfl (by (try simp only [← Int32.not_le, Classical.not_not] at c153 c161 ⊢); simp only [hset_hset, mvF, ← Int32.not_le, eq_true c153, c161, not_true_eq_false, not_false_eq_true, if_true, if_false, decide_true, decide_false, Bool.and_true, Bool.and_false, Bool.true_and, Bool.false_and, Bool.or_true, Bool.or_false, Bool.true_or, Bool.false_or, Bool.not_true, Bool.not_false, and_true, and_false, true_and, false_and, or_true, or_false, true_or, false_or, bIt, bIf, Bool.false_eq_true, reduceCtorEq] <;> first | rfl | exact hset_id ha | exact (hset_id ha).symm)
set_option maxRecDepth 20000 in
set_option maxHeartbeats 4000000 in
theorem s6_moves_b (l : Launch) (d : Nat) (h : MH) (n a : Nat) (K : KK) (ha : h a = some (kc K)) (p e m : Nat) (to : Int32) (hp : p < 10) (he : e < 2) (hm : K 90 = nI m) (hm10 : m ≤ 10) : V l mX6_moves (d + 2) 89 [some (.ref a), some (.int (nI p)), some (.int (nI e)), some (.int to), none] [] h n 0 0 (Pu (hset h a (kc (mvF (mvT K p to (1 - e)) m to (nI e) (1 - e)))) n) := by
  refine V.iconst (v := nI 1) dX6_moves_89 (by decide) ?_
  refine V.iload_n dX6_moves_90 rfl ?_
  refine V.isubN dX6_moves_91 (by omega) ?_
  refine V.ist4 dX6_moves_92 (by decide) rfl ?_
  refine V.aload_n dX6_moves_94 rfl ?_
  refine V.iload dX6_moves_95 rfl ?_
  refine V.callSv [_, _] dX6_moves_97 lk_X6_188 rfl (Nat.le_of_ble_eq_true rfl) (Nat.le_of_ble_eq_true rfl) (s6_carrierOf _ _ _ _ _ _ ha _ (by omega)) ?_
  refine V.if_ge (tgt := 147) dX6_moves_100 (by decide) (fun c100 => ?_) (fun c100 => ?_)
  · exact V.qu2 (s6_moves_c l d _ n a _ ha p e m to (by (repeat rw [pk_un (by omega)]); exact hm) hm10) (by (try simp only [← Int32.not_le, Classical.not_not] at c100 ⊢); simp only [hset_hset, mvT, ← Int32.not_le, c100, not_true_eq_false, not_false_eq_true, if_true, if_false, decide_true, decide_false, Bool.and_true, Bool.and_false, Bool.true_and, Bool.false_and, Bool.or_true, Bool.or_false, Bool.true_or, Bool.false_or, Bool.not_true, Bool.not_false, and_true, and_false, true_and, false_and, or_true, or_false, true_or, false_or, bIt, bIf, Bool.false_eq_true, reduceCtorEq])
  · refine V.aload_n dX6_moves_103 rfl ?_
    refine V.bipush (v := nI 96) dX6_moves_104 (by decide) ?_
    refine V.iconst (v := nI 2) dX6_moves_106 (by decide) ?_
    refine V.iload dX6_moves_107 rfl ?_
    refine V.imulN dX6_moves_109 ?_
    refine V.iaddN dX6_moves_110 ?_
    refine V.ialdN dX6_moves_111 ha (by omega) (by decide) ?_
    refine V.iload_n dX6_moves_112 rfl ?_
    refine V.icmp_ne (tgt := 147) dX6_moves_113 (by decide) (fun c113 => ?_) (fun c113 => ?_)
    · exact V.qu2 (s6_moves_c l d _ n a _ ha p e m to (by (repeat rw [pk_un (by omega)]); exact hm) hm10) (by (try simp only [← Int32.not_le, Classical.not_not] at c100 c113 ⊢); simp only [hset_hset, mvT, ← Int32.not_le, c100, c113, not_true_eq_false, not_false_eq_true, if_true, if_false, decide_true, decide_false, Bool.and_true, Bool.and_false, Bool.true_and, Bool.false_and, Bool.or_true, Bool.or_false, Bool.true_or, Bool.false_or, Bool.not_true, Bool.not_false, and_true, and_false, true_and, false_and, or_true, or_false, true_or, false_or, bIt, bIf, Bool.false_eq_true, reduceCtorEq])
    · refine V.aload_n dX6_moves_116 rfl ?_
      refine V.bipush (v := nI 96) dX6_moves_117 (by decide) ?_
      refine V.iconst (v := nI 2) dX6_moves_119 (by decide) ?_
      refine V.iload dX6_moves_120 rfl ?_
      refine V.imulN dX6_moves_122 ?_
      refine V.iaddN dX6_moves_123 ?_
      refine V.iconst (v := nI 1) dX6_moves_124 (by decide) ?_
      refine V.iaddN dX6_moves_125 ?_
      refine V.iload_n dX6_moves_126 rfl ?_
      refine V.iastN dX6_moves_127 ha (by omega) (by decide) ?_
      refine V.aload_n dX6_moves_128 rfl ?_
      refine V.bipush (v := nI 94) dX6_moves_129 (by decide) ?_
      refine V.aload_n dX6_moves_131 rfl ?_
      refine V.bipush (v := nI 94) dX6_moves_132 (by decide) ?_
      refine V.ialdN dX6_moves_134 (hset_self _ _ _) (by omega) (by decide) ?_
      refine V.if_ge (tgt := 142) dX6_moves_135 (by decide) (fun c135 => ?_) (fun c135 => ?_)
      · refine V.aload_n dX6_moves_142 rfl ?_
        refine V.bipush (v := nI 94) dX6_moves_143 (by decide) ?_
        refine V.ialdN dX6_moves_145 (hset_self _ _ _) (by omega) (by decide) ?_
        refine V.iastN dX6_moves_146 (hset_self _ _ _) (by omega) (by decide) ?_
        exact V.qu2 (s6_moves_c l d _ n a _ (hset_self _ _ _) p e m to (by (repeat rw [pk_un (by omega)]); exact hm) hm10) (by (try simp only [← Int32.not_le, Classical.not_not] at c100 c113 c135 ⊢); simp only [hset_hset, mvT, ← Int32.not_le, c100, eq_true c113, c135, not_true_eq_false, not_false_eq_true, if_true, if_false, decide_true, decide_false, Bool.and_true, Bool.and_false, Bool.true_and, Bool.false_and, Bool.or_true, Bool.or_false, Bool.true_or, Bool.false_or, Bool.not_true, Bool.not_false, and_true, and_false, true_and, false_and, or_true, or_false, true_or, false_or, bIt, bIf, Bool.false_eq_true, reduceCtorEq])
      · refine V.iload_n dX6_moves_138 rfl ?_
        refine V.goto (tgt := 146) dX6_moves_139 (by decide) ?_
        refine V.iastN dX6_moves_146 (hset_self _ _ _) (by omega) (by decide) ?_
        exact V.qu2 (s6_moves_c l d _ n a _ (hset_self _ _ _) p e m to (by (repeat rw [pk_un (by omega)]); exact hm) hm10) (by (try simp only [← Int32.not_le, Classical.not_not] at c100 c113 c135 ⊢); simp only [hset_hset, mvT, ← Int32.not_le, c100, eq_true c113, c135, not_true_eq_false, not_false_eq_true, if_true, if_false, decide_true, decide_false, Bool.and_true, Bool.and_false, Bool.true_and, Bool.false_and, Bool.or_true, Bool.or_false, Bool.true_or, Bool.false_or, Bool.not_true, Bool.not_false, and_true, and_false, true_and, false_and, or_true, or_false, true_or, false_or, bIt, bIf, Bool.false_eq_true, reduceCtorEq])
set_option maxRecDepth 20000 in
set_option maxHeartbeats 4000000 in
theorem s6_moves_d (l : Launch) (d : Nat) (h : MH) (n a : Nat) (K : KK) (ha : h a = some (kc K)) (p e m : Nat) (to : Int32) (hp : p < 10) (he : e < 2) (hm : K 90 = nI m) (hm10 : m ≤ 10) : V l mX6_moves (d + 2) 57 [some (.ref a), some (.int (nI p)), some (.int (nI e)), some (.int to), some (.int (nI 0))] [] h n 0 0 (Pu (hset h a (kc (mvF (mvT (mfl (mfl K p 0 to) p (0 + 1) to) p to (1 - e)) m to (nI e) (1 - e)))) n) := by
  refine V.iload dX6_moves_57 rfl ?_
  refine V.iconst (v := nI 2) dX6_moves_59 (by decide) ?_
  refine V.icmp_ge (tgt := 89) dX6_moves_60 (by decide) (fun q => absurd q (by decide)) (fun _ => ?_)
  refine V.aload_n dX6_moves_63 rfl ?_
  refine V.iload dX6_moves_64 rfl ?_
  refine V.callSv [_, _] dX6_moves_66 lk_X6_188 rfl (Nat.le_of_ble_eq_true rfl) (Nat.le_of_ble_eq_true rfl) (s6_carrierOf _ _ _ _ _ _ ha _ (by omega)) ?_
  refine V.iload_n dX6_moves_69 rfl ?_
  refine V.icmp_ne (tgt := 83) dX6_moves_70 (by decide) (fun c70 => ?_) (fun c70 => ?_)
  · refine V.inN4 dX6_moves_83 (by decide) rfl ?_
    refine V.goto (tgt := 57) dX6_moves_86 (by decide) ?_
    refine V.iload dX6_moves_57 rfl ?_
    refine V.iconst (v := nI 2) dX6_moves_59 (by decide) ?_
    refine V.icmp_ge (tgt := 89) dX6_moves_60 (by decide) (fun q => absurd q (by decide)) (fun _ => ?_)
    refine V.aload_n dX6_moves_63 rfl ?_
    refine V.iload dX6_moves_64 rfl ?_
    refine V.callSv [_, _] dX6_moves_66 lk_X6_188 rfl (Nat.le_of_ble_eq_true rfl) (Nat.le_of_ble_eq_true rfl) (s6_carrierOf _ _ _ _ _ _ ha _ (by omega)) ?_
    refine V.iload_n dX6_moves_69 rfl ?_
    refine V.icmp_ne (tgt := 83) dX6_moves_70 (by decide) (fun c70x => ?_) (fun c70x => ?_)
    · refine V.inN4 dX6_moves_83 (by decide) rfl ?_
      refine V.goto (tgt := 57) dX6_moves_86 (by decide) ?_
      refine V.iload dX6_moves_57 rfl ?_
      refine V.iconst (v := nI 2) dX6_moves_59 (by decide) ?_
      refine V.icmp_ge (tgt := 89) dX6_moves_60 (by decide) (fun _ => ?_) (fun q => absurd q (by decide))
      exact V.drop 4 (V.qu2 (s6_moves_b l _ _ n a _ ha p e m _ (by omega) he (by (repeat rw [pk_un (by omega)]); exact hm) hm10) (by (try simp only [← Int32.not_le, Classical.not_not] at c70 c70x ⊢); simp only [hset_hset, mfl, ← Int32.not_le, c70, c70x, not_true_eq_false, not_false_eq_true, if_true, if_false, decide_true, decide_false, Bool.and_true, Bool.and_false, Bool.true_and, Bool.false_and, Bool.or_true, Bool.or_false, Bool.true_or, Bool.false_or, Bool.not_true, Bool.not_false, and_true, and_false, true_and, false_and, or_true, or_false, true_or, false_or, bIt, bIf, Bool.false_eq_true, reduceCtorEq]))
    · refine V.aload_n dX6_moves_73 rfl ?_
      refine V.bipush (v := nI 96) dX6_moves_74 (by decide) ?_
      refine V.iconst (v := nI 2) dX6_moves_76 (by decide) ?_
      refine V.iload dX6_moves_77 rfl ?_
      refine V.imulN dX6_moves_79 ?_
      refine V.iaddN dX6_moves_80 ?_
      refine V.iload_n dX6_moves_81 rfl ?_
      refine V.iastN dX6_moves_82 ha (by omega) (by decide) ?_
      refine V.inN4 dX6_moves_83 (by decide) rfl ?_
      refine V.goto (tgt := 57) dX6_moves_86 (by decide) ?_
      refine V.iload dX6_moves_57 rfl ?_
      refine V.iconst (v := nI 2) dX6_moves_59 (by decide) ?_
      refine V.icmp_ge (tgt := 89) dX6_moves_60 (by decide) (fun _ => ?_) (fun q => absurd q (by decide))
      exact V.drop 4 (V.qu2 (s6_moves_b l _ _ n a _ (hset_self _ _ _) p e m _ (by omega) he (by (repeat rw [pk_un (by omega)]); exact hm) hm10) (by (try simp only [← Int32.not_le, Classical.not_not] at c70 c70x ⊢); simp only [hset_hset, mfl, ← Int32.not_le, c70, eq_true c70x, not_true_eq_false, not_false_eq_true, if_true, if_false, decide_true, decide_false, Bool.and_true, Bool.and_false, Bool.true_and, Bool.false_and, Bool.or_true, Bool.or_false, Bool.true_or, Bool.false_or, Bool.not_true, Bool.not_false, and_true, and_false, true_and, false_and, or_true, or_false, true_or, false_or, bIt, bIf, Bool.false_eq_true, reduceCtorEq]))
  · refine V.aload_n dX6_moves_73 rfl ?_
    refine V.bipush (v := nI 96) dX6_moves_74 (by decide) ?_
    refine V.iconst (v := nI 2) dX6_moves_76 (by decide) ?_
    refine V.iload dX6_moves_77 rfl ?_
    refine V.imulN dX6_moves_79 ?_
    refine V.iaddN dX6_moves_80 ?_
    refine V.iload_n dX6_moves_81 rfl ?_
    refine V.iastN dX6_moves_82 ha (by omega) (by decide) ?_
    refine V.inN4 dX6_moves_83 (by decide) rfl ?_
    refine V.goto (tgt := 57) dX6_moves_86 (by decide) ?_
    refine V.iload dX6_moves_57 rfl ?_
    refine V.iconst (v := nI 2) dX6_moves_59 (by decide) ?_
    refine V.icmp_ge (tgt := 89) dX6_moves_60 (by decide) (fun q => absurd q (by decide)) (fun _ => ?_)
    refine V.aload_n dX6_moves_63 rfl ?_
    refine V.iload dX6_moves_64 rfl ?_
    refine V.callSv [_, _] dX6_moves_66 lk_X6_188 rfl (Nat.le_of_ble_eq_true rfl) (Nat.le_of_ble_eq_true rfl) (s6_carrierOf _ _ _ _ _ _ (hset_self _ _ _) _ (by omega)) ?_
    refine V.iload_n dX6_moves_69 rfl ?_
    refine V.icmp_ne (tgt := 83) dX6_moves_70 (by decide) (fun c70x => ?_) (fun c70x => ?_)
    · refine V.inN4 dX6_moves_83 (by decide) rfl ?_
      refine V.goto (tgt := 57) dX6_moves_86 (by decide) ?_
      refine V.iload dX6_moves_57 rfl ?_
      refine V.iconst (v := nI 2) dX6_moves_59 (by decide) ?_
      refine V.icmp_ge (tgt := 89) dX6_moves_60 (by decide) (fun _ => ?_) (fun q => absurd q (by decide))
      exact V.drop 4 (V.qu2 (s6_moves_b l _ _ n a _ (hset_self _ _ _) p e m _ (by omega) he (by (repeat rw [pk_un (by omega)]); exact hm) hm10) (by (try simp only [← Int32.not_le, Classical.not_not] at c70 c70x ⊢); simp only [hset_hset, mfl, ← Int32.not_le, eq_true c70, c70x, not_true_eq_false, not_false_eq_true, if_true, if_false, decide_true, decide_false, Bool.and_true, Bool.and_false, Bool.true_and, Bool.false_and, Bool.or_true, Bool.or_false, Bool.true_or, Bool.false_or, Bool.not_true, Bool.not_false, and_true, and_false, true_and, false_and, or_true, or_false, true_or, false_or, bIt, bIf, Bool.false_eq_true, reduceCtorEq]))
    · refine V.aload_n dX6_moves_73 rfl ?_
      refine V.bipush (v := nI 96) dX6_moves_74 (by decide) ?_
      refine V.iconst (v := nI 2) dX6_moves_76 (by decide) ?_
      refine V.iload dX6_moves_77 rfl ?_
      refine V.imulN dX6_moves_79 ?_
      refine V.iaddN dX6_moves_80 ?_
      refine V.iload_n dX6_moves_81 rfl ?_
      refine V.iastN dX6_moves_82 (hset_self _ _ _) (by omega) (by decide) ?_
      refine V.inN4 dX6_moves_83 (by decide) rfl ?_
      refine V.goto (tgt := 57) dX6_moves_86 (by decide) ?_
      refine V.iload dX6_moves_57 rfl ?_
      refine V.iconst (v := nI 2) dX6_moves_59 (by decide) ?_
      refine V.icmp_ge (tgt := 89) dX6_moves_60 (by decide) (fun _ => ?_) (fun q => absurd q (by decide))
      exact V.drop 4 (V.qu2 (s6_moves_b l _ _ n a _ (hset_self _ _ _) p e m _ (by omega) he (by (repeat rw [pk_un (by omega)]); exact hm) hm10) (by (try simp only [← Int32.not_le, Classical.not_not] at c70 c70x ⊢); simp only [hset_hset, mfl, ← Int32.not_le, eq_true c70, eq_true c70x, not_true_eq_false, not_false_eq_true, if_true, if_false, decide_true, decide_false, Bool.and_true, Bool.and_false, Bool.true_and, Bool.false_and, Bool.or_true, Bool.or_false, Bool.true_or, Bool.false_or, Bool.not_true, Bool.not_false, and_true, and_false, true_and, false_and, or_true, or_false, true_or, false_or, bIt, bIf, Bool.false_eq_true, reduceCtorEq]))
set_option maxRecDepth 20000 in
set_option maxHeartbeats 4000000 in
theorem s6_moves (l : Launch) (d : Nat) (h : MH) (n a : Nat) (K : KK) (ha : h a = some (kc K)) (p m : Nat) (hK : KR K m) (hp : p < m) (hfr : gP K p 5 = nI 0) : Sp l mX6_moves (d + 6) [.ref a, .int (nI p)] h n 0 0 (Pu (hset h a (kc (mvs K m p))) n) := by
  have hm := hK.1
  have hm10 := hK.2.1
  have hat := hK.2.2.2.2.1
  obtain ⟨e0, he, hs⟩ := hK.2.2.1 p hp
  obtain ⟨q0, hq2, hq0⟩ := hK.2.2.2.1 e0 he
  obtain ⟨kq, hk8, hk⟩ := role_kind hK hp
  have hcv : cellv (gP K p 4) := hat p hp hfr
  rw [mvs, hs, clampI (show e0 < 2147483648 by omega)]
  show V _ _ _ _ [some (.ref a), some (.int (nI p)), none, none, none] _ _ _ _ _ _
  refine V.aload_n dX6_moves_0 rfl ?_
  refine V.iload_n dX6_moves_1 rfl ?_
  refine V.iconst (v := nI 0) dX6_moves_2 (by decide) ?_
  refine V.callSv [_, _, _] dX6_moves_3 lk_X6_82 rfl (Nat.le_of_ble_eq_true rfl) (Nat.le_of_ble_eq_true rfl) (s6_get _ _ _ _ _ _ ha _ _ (by omega) (by omega)) ?_
  rw [hs]
  refine V.ist2 dX6_moves_6 (by decide) rfl ?_
  refine V.aload_n dX6_moves_7 rfl ?_
  refine V.iload_n dX6_moves_8 rfl ?_
  refine V.aload_n dX6_moves_9 rfl ?_
  refine V.iload_n dX6_moves_10 rfl ?_
  refine V.callSv [_, _] dX6_moves_11 lk_X6_217 rfl (Nat.le_of_ble_eq_true rfl) (Nat.le_of_ble_eq_true rfl) (s6_goalOf _ _ _ _ _ _ ha _ (by omega) _ hm hm10 _ _ he hs hq2 hq0 hat _ hk8 hk) ?_
  refine V.callSv [_, _, _] dX6_moves_14 lk_X6_201 rfl (Nat.le_of_ble_eq_true rfl) (Nat.le_of_ble_eq_true rfl) (s6_nextOf _ _ _ _ _ _ ha _ _ (by omega)) ?_
  refine V.ist3 dX6_moves_17 (by decide) rfl ?_
  refine V.iload_n dX6_moves_18 rfl ?_
  refine V.aload_n dX6_moves_19 rfl ?_
  refine V.iload_n dX6_moves_20 rfl ?_
  refine V.iconst (v := nI 4) dX6_moves_21 (by decide) ?_
  refine V.callSv [_, _, _] dX6_moves_22 lk_X6_82 rfl (Nat.le_of_ble_eq_true rfl) (Nat.le_of_ble_eq_true rfl) (s6_get _ _ _ _ _ _ ha _ _ (by omega) (by omega)) ?_
  refine V.icmp_eq (tgt := 89) dX6_moves_25 (by decide) (fun c25 => ?_) (fun c25 => ?_)
  · exact V.drop 4 (V.qu2 (s6_moves_b l _ _ n a _ ha p e0 m _ (by omega) he (by (repeat rw [pk_un (by omega)]); exact hm) hm10) (by simp only [hset_hset, mvA, eq_true c25, not_true_eq_false, not_false_eq_true, if_true, if_false, decide_true, decide_false, Bool.and_true, Bool.and_false, Bool.true_and, Bool.false_and, Bool.or_true, Bool.or_false, Bool.true_or, Bool.false_or, Bool.not_true, Bool.not_false, and_true, and_false, true_and, false_and, or_true, or_false, true_or, false_or, bIt, bIf, Bool.false_eq_true, reduceCtorEq]))
  · refine V.aload_n dX6_moves_28 rfl ?_
    refine V.iload_n dX6_moves_29 rfl ?_
    refine V.iconst (v := nI 4) dX6_moves_30 (by decide) ?_
    refine V.iload_n dX6_moves_31 rfl ?_
    refine V.callSu [_, _, _, _] dX6_moves_32 lk_X6_86 rfl (Nat.le_of_ble_eq_true rfl) (Nat.le_of_ble_eq_true rfl) (s6_puts _ _ _ _ _ _ ha _ _ _ (by omega) (by omega)) ?_
    refine V.aload_n dX6_moves_35 rfl ?_
    refine V.iload_n dX6_moves_36 rfl ?_
    refine V.bipush (v := nI 6) dX6_moves_37 (by decide) ?_
    refine V.aload_n dX6_moves_39 rfl ?_
    refine V.iload_n dX6_moves_40 rfl ?_
    refine V.ialdC dX6_moves_41 (hset_self _ _ _) (nxt_cell _ hcv) (by decide) (by decide) ?_
    refine V.iconst (v := nI 2) dX6_moves_42 (by decide) ?_
    refine V.icmp_ne (tgt := 50) dX6_moves_43 (by decide) (fun c43 => ?_) (fun c43 => ?_)
    · refine V.iconst (v := nI 0) dX6_moves_50 (by decide) ?_
      refine V.callSu [_, _, _, _] dX6_moves_51 lk_X6_86 rfl (Nat.le_of_ble_eq_true rfl) (Nat.le_of_ble_eq_true rfl) (s6_puts _ _ _ _ _ _ (hset_self _ _ _) _ _ _ (by omega) (by omega)) ?_
      refine V.iconst (v := nI 0) dX6_moves_54 (by decide) ?_
      refine V.ist4 dX6_moves_55 (by decide) rfl ?_
      exact V.qu2 (s6_moves_d l _ _ n a _ (hset_self _ _ _) p e0 m _ (by omega) he (by (repeat rw [pk_un (by omega)]); exact hm) hm10) (by simp only [hset_hset, mvA, mv1, c25, c43, not_true_eq_false, not_false_eq_true, if_true, if_false, decide_true, decide_false, Bool.and_true, Bool.and_false, Bool.true_and, Bool.false_and, Bool.or_true, Bool.or_false, Bool.true_or, Bool.false_or, Bool.not_true, Bool.not_false, and_true, and_false, true_and, false_and, or_true, or_false, true_or, false_or, bIt, bIf, Bool.false_eq_true, reduceCtorEq])
    · refine V.iconst (v := nI 1) dX6_moves_46 (by decide) ?_
      refine V.goto (tgt := 51) dX6_moves_47 (by decide) ?_
      refine V.callSu [_, _, _, _] dX6_moves_51 lk_X6_86 rfl (Nat.le_of_ble_eq_true rfl) (Nat.le_of_ble_eq_true rfl) (s6_puts _ _ _ _ _ _ (hset_self _ _ _) _ _ _ (by omega) (by omega)) ?_
      refine V.iconst (v := nI 0) dX6_moves_54 (by decide) ?_
      refine V.ist4 dX6_moves_55 (by decide) rfl ?_
      exact V.qu2 (s6_moves_d l _ _ n a _ (hset_self _ _ _) p e0 m _ (by omega) he (by (repeat rw [pk_un (by omega)]); exact hm) hm10) (by simp only [hset_hset, mvA, mv1, c25, eq_true c43, not_true_eq_false, not_false_eq_true, if_true, if_false, decide_true, decide_false, Bool.and_true, Bool.and_false, Bool.true_and, Bool.false_and, Bool.or_true, Bool.or_false, Bool.true_or, Bool.false_or, Bool.not_true, Bool.not_false, and_true, and_false, true_and, false_and, or_true, or_false, true_or, false_or, bIt, bIf, Bool.false_eq_true, reduceCtorEq])
