theorem upd_swap (K : KK) {i j : Nat} (h : i ≠ j) (x y : Int32) : upd (upd K i x) j y = upd (upd K j y) i x := by
  funext k
  unfold upd
  by_cases h1 : k = i
  · by_cases h2 : k = j
    · omega
    · simp [h1, h]
  · by_cases h2 : k = j
    · rw [if_pos h2, if_neg h1, if_pos h2]
    · rw [if_neg h2, if_neg h1, if_neg h1, if_neg h2]
theorem gl_cell (s : Int32) : cellv (gl s) := by
  unfold gl
  split
  · exact ⟨0, by omega, rfl⟩
  · exact ⟨83, by omega, rfl⟩
theorem KR.td {K : KK} {m : Nat} (h : KR K m) (p e : Nat) (he : e < 2) : KR (td K p e) m := by
  unfold Jvm.Pilot.CTwoFlagsLaw_law_r4094_467254.td
  split
  · exact (h.lo _ _ (by omega) (by omega)).lo _ _ (by omega) (by omega)
  · exact h
theorem KR.tch {K : KK} {m : Nat} (h : KR K m) (p : Nat) : KR (tch K p) m := by
  unfold Jvm.Pilot.CTwoFlagsLaw_law_r4094_467254.tch
  have h1 : KR (dz K) m := h.lo _ _ (by omega) (by omega)
  split
  · have h2 : KR (tq (dz K) p) m := ((h1.lo _ _ (by omega) (by omega)).td _ _ (by omega)).td _ _ (by omega)
    exact ((h2.pl p 5 _ (by omega) (fun q => by omega) (fun _ q => absurd q (by decide))).pl p 4 _ (by omega) (fun _ => gl_cell _) (fun q => by omega)).pl p 6 _ (by omega) (fun q => by omega) (fun q => by omega)
  · exact h1
theorem KR.rel {K : KK} {m : Nat} (h : KR K m) (p : Nat) (hp : p < m) : KR (rel K p) m := by
  unfold Jvm.Pilot.CTwoFlagsLaw_law_r4094_467254.rel
  have e : gP (upd K (114 + 7 * p + 5) (nI 0)) p 3 = gP K p 3 := by rw [gP_upd _ _ _ _ _ _ (by omega) (by omega), if_neg (by omega)]
  rw [e, upd_swap K (i := 114 + 7 * p + 5) (j := 114 + 7 * p + 4) (by omega)]
  have hc := h.2.2.2.2.2.2.2 p hp
  refine ((h.pl p 4 (gP K p 3) (by omega) (fun _ => hc) (fun q => by omega)).pl p 5 (nI 0) (by omega) (fun q => by omega) (fun _ _ => ?_)).pl p 6 (nI 0) (by omega) (fun q => by omega) (fun q => by omega)
  rw [gP_upd _ _ _ _ _ _ (by omega) (by omega), if_pos ⟨rfl, rfl⟩]
  exact hc
theorem KR.frL {m : Nat} (s : Int32) : ∀ (r p : Nat) (K : KK), KR K m → p + r ≤ m → KR (frL s r p K) m := by
  intro r
  induction r with
  | zero => intro p K h _; exact h
  | succ r ih =>
    intro p K h hp
    have h1 : KR (Jvm.Pilot.CTwoFlagsLaw_law_r4094_467254.rel K p) m := h.rel p (by omega)
    rw [Jvm.Pilot.CTwoFlagsLaw_law_r4094_467254.frL]
    split
    · split
      · split
        · exact h1
        · exact ih _ _ h1 (by omega)
      · exact ih _ _ h (by omega)
    · exact ih _ _ h (by omega)
theorem KR.mfl {K : KK} {m : Nat} (h : KR K m) (p e : Nat) (to : Int32) (he : e < 2) : KR (mfl K p e to) m := by
  unfold Jvm.Pilot.CTwoFlagsLaw_law_r4094_467254.mfl
  split
  · exact h.lo _ _ (by omega) (by omega)
  · exact h
theorem KR.mvA {K : KK} {m : Nat} (h : KR K m) (p : Nat) (to : Int32) (ht : cellv to) : KR (mvA K p to) m := by
  unfold Jvm.Pilot.CTwoFlagsLaw_law_r4094_467254.mvA
  split
  · exact h
  · exact ((((h.pl p 4 _ (by omega) (fun _ => ht) (fun q => by omega)).pl p 6 _ (by omega) (fun q => by omega) (fun q => by omega)).mfl _ _ _ (by omega)).mfl _ _ _ (by omega))
theorem KR.mvT {K : KK} {m : Nat} (h : KR K m) (p : Nat) (to : Int32) (b : Nat) (hb : b < 2) : KR (mvT K p to b) m := by
  unfold Jvm.Pilot.CTwoFlagsLaw_law_r4094_467254.mvT
  split
  · split
    · exact (h.lo _ _ (by omega) (by omega)).lo _ _ (by omega) (by omega)
    · exact h
  · exact h
theorem KR.mvs {K : KK} {m p : Nat} (h : KR K m) (hp : p < m) (hf : gP K p 5 = nI 0) : KR (mvs K m p) m := by
  have hc := h.2.2.2.2.1 p hp hf
  have h1 := (h.mvA p (nxt K p (goal K m p)) (nxt_cell _ hc)).mvT p (nxt K p (goal K m p)) (1 - (gP K p 0).toNatClampNeg) (by omega)
  unfold Jvm.Pilot.CTwoFlagsLaw_law_r4094_467254.mvs mvF
  split
  · split
    · exact h1.frL _ _ _ _ (by omega)
    · exact h1
  · exact h1
/-- one meets the others -/
def mt1 (K : KK) (p : Nat) (s : Int32) (b : Bool) (q : Nat) : KK := if gP K q 0 = s then K else if frB K q = true then (if frB K p = true then (if nr (gP K q 4) (gP K p 4) ≤ K 85 then (if b = true then (if hfc (gP K q 4) = s then tch K q else K) else tch K p) else K) else K) else K
def mtL (p : Nat) (s : Int32) (b : Bool) : Nat → Nat → KK → KK
  | 0, _, K => K
  | r + 1, q, K => mtL p s b r (q + 1) (mt1 K p s b q)
def mts (K : KK) (m p : Nat) : KK := mtL p (gP K p 0) (decide (hfc (gP K p 4) = gP K p 0)) m 0 K
theorem KR.mtL {m : Nat} (p : Nat) (s : Int32) (b : Bool) : ∀ (r q : Nat) (K : KK), KR K m → KR (mtL p s b r q K) m := by
  intro r
  induction r with
  | zero => intro q K h; exact h
  | succ r ih =>
    intro q K h
    refine ih _ _ ?_
    unfold mt1
    repeat' split
    all_goals first | exact h | exact h.tch _
set_option maxRecDepth 20000 in
set_option maxHeartbeats 4000000 in
theorem s6_meets_loop (l : Launch) (d : Nat) (n a p : Nat) (s : Int32) (b : Bool) (m : Nat) (hp : p < m) : ∀ (r q : Nat) (K : KK) (h : MH), h a = some (kc K) → KR K m → q + r = m → V l mX6_meets (d + 2) 29 [some (.ref a), some (.int (nI p)), some (.int s), some (.int (bI b)), some (.int (nI q))] [] h n 0 0 (Pu (hset h a (kc (mtL p s b r q K))) n) := by
  intro r
  induction r with
  | zero =>
    intro q K h ha hK hq
    have hm10 := hK.2.1
    refine V.iload dX6_meets_29 rfl ?_
    refine V.aload_n dX6_meets_31 rfl ?_
    refine V.bipush (v := nI 90) dX6_meets_32 (by decide) ?_
    refine V.ialdN dX6_meets_34 ha (by omega) (by decide) ?_
    rw [hK.1]
    refine V.icmp_geN (tgt := 130) dX6_meets_35 (by decide) (by omega) (by omega) (fun _ => ?_) (fun q => absurd q (by omega))
    exact V.vretP (by exact dX6_meets_130) rfl (by rw [mtL, hset_id ha])
  | succ r ih =>
    intro q K h ha hK hq
    have hm10 := hK.2.1
    refine V.iload dX6_meets_29 rfl ?_
    refine V.aload_n dX6_meets_31 rfl ?_
    refine V.bipush (v := nI 90) dX6_meets_32 (by decide) ?_
    refine V.ialdN dX6_meets_34 ha (by omega) (by decide) ?_
    rw [hK.1]
    refine V.icmp_geN (tgt := 130) dX6_meets_35 (by decide) (by omega) (by omega) (fun q => absurd q (by omega)) (fun _ => ?_)
    refine V.aload_n dX6_meets_38 rfl ?_
    refine V.iload dX6_meets_39 rfl ?_
    refine V.iconst (v := nI 0) dX6_meets_41 (by decide) ?_
    refine V.callSv [_, _, _] dX6_meets_42 lk_X6_82 rfl (Nat.le_of_ble_eq_true rfl) (Nat.le_of_ble_eq_true rfl) (s6_get _ _ _ _ _ _ ha _ _ (by omega) (by omega)) ?_
    refine V.iload_n dX6_meets_45 rfl ?_
    refine V.icmp_eq (tgt := 124) dX6_meets_46 (by decide) (fun c46 => ?_) (fun c46 => ?_)
    · refine V.inN4 dX6_meets_124 (by decide) rfl ?_
      refine V.goto (tgt := 29) dX6_meets_127 (by decide) ?_
      exact V.qu2 (ih (q + 1) _ _ ha (by first | exact hK | exact hK.tch _) (by omega)) (by (try simp only [← Int32.not_le, Classical.not_not] at c46 ⊢); simp only [hset_hset, mtL, mt1, ← Int32.not_le, eq_true c46, not_true_eq_false, not_false_eq_true, if_true, if_false, decide_true, decide_false, Bool.and_true, Bool.and_false, Bool.true_and, Bool.false_and, Bool.or_true, Bool.or_false, Bool.true_or, Bool.false_or, Bool.not_true, Bool.not_false, and_true, and_false, true_and, false_and, or_true, or_false, true_or, false_or, bIt, bIf, Bool.false_eq_true, reduceCtorEq])
    · refine V.aload_n dX6_meets_49 rfl ?_
      refine V.iload dX6_meets_50 rfl ?_
      refine V.callSv [_, _] dX6_meets_52 lk_X6_181 rfl (Nat.le_of_ble_eq_true rfl) (Nat.le_of_ble_eq_true rfl) (s6_isFree _ _ _ _ _ _ ha _ (by omega)) ?_
      refine V.if_eqB (tgt := 124) dX6_meets_55 (by decide) (fun c55 => ?_) (fun c55 => ?_)
      · refine V.inN4 dX6_meets_124 (by decide) rfl ?_
        refine V.goto (tgt := 29) dX6_meets_127 (by decide) ?_
        exact V.qu2 (ih (q + 1) _ _ ha (by first | exact hK | exact hK.tch _) (by omega)) (by (try simp only [← Int32.not_le, Classical.not_not] at c46 c55 ⊢); simp only [hset_hset, mtL, mt1, ← Int32.not_le, c46, c55, not_true_eq_false, not_false_eq_true, if_true, if_false, decide_true, decide_false, Bool.and_true, Bool.and_false, Bool.true_and, Bool.false_and, Bool.or_true, Bool.or_false, Bool.true_or, Bool.false_or, Bool.not_true, Bool.not_false, and_true, and_false, true_and, false_and, or_true, or_false, true_or, false_or, bIt, bIf, Bool.false_eq_true, reduceCtorEq])
      · refine V.aload_n dX6_meets_58 rfl ?_
        refine V.iload_n dX6_meets_59 rfl ?_
        refine V.callSv [_, _] dX6_meets_60 lk_X6_181 rfl (Nat.le_of_ble_eq_true rfl) (Nat.le_of_ble_eq_true rfl) (s6_isFree _ _ _ _ _ _ ha _ (by omega)) ?_
        refine V.if_eqB (tgt := 124) dX6_meets_63 (by decide) (fun c63 => ?_) (fun c63 => ?_)
        · refine V.inN4 dX6_meets_124 (by decide) rfl ?_
          refine V.goto (tgt := 29) dX6_meets_127 (by decide) ?_
          exact V.qu2 (ih (q + 1) _ _ ha (by first | exact hK | exact hK.tch _) (by omega)) (by (try simp only [← Int32.not_le, Classical.not_not] at c46 c55 c63 ⊢); simp only [hset_hset, mtL, mt1, ← Int32.not_le, c46, c55, c63, not_true_eq_false, not_false_eq_true, if_true, if_false, decide_true, decide_false, Bool.and_true, Bool.and_false, Bool.true_and, Bool.false_and, Bool.or_true, Bool.or_false, Bool.true_or, Bool.false_or, Bool.not_true, Bool.not_false, and_true, and_false, true_and, false_and, or_true, or_false, true_or, false_or, bIt, bIf, Bool.false_eq_true, reduceCtorEq])
        · refine V.aload_n dX6_meets_66 rfl ?_
          refine V.iload dX6_meets_67 rfl ?_
          refine V.iconst (v := nI 4) dX6_meets_69 (by decide) ?_
          refine V.callSv [_, _, _] dX6_meets_70 lk_X6_82 rfl (Nat.le_of_ble_eq_true rfl) (Nat.le_of_ble_eq_true rfl) (s6_get _ _ _ _ _ _ ha _ _ (by omega) (by omega)) ?_
          refine V.aload_n dX6_meets_73 rfl ?_
          refine V.iload_n dX6_meets_74 rfl ?_
          refine V.iconst (v := nI 4) dX6_meets_75 (by decide) ?_
          refine V.callSv [_, _, _] dX6_meets_76 lk_X6_82 rfl (Nat.le_of_ble_eq_true rfl) (Nat.le_of_ble_eq_true rfl) (s6_get _ _ _ _ _ _ ha _ _ (by omega) (by omega)) ?_
          refine V.callSv [_, _] dX6_meets_79 lk_X6_78 rfl (Nat.le_of_ble_eq_true rfl) (Nat.le_of_ble_eq_true rfl) (s6_nearOf _ _ _ _ _ _) ?_
          refine V.aload_n dX6_meets_82 rfl ?_
          refine V.bipush (v := nI 85) dX6_meets_83 (by decide) ?_
          refine V.ialdN dX6_meets_85 ha (by omega) (by decide) ?_
          refine V.icmp_le (tgt := 92) dX6_meets_86 (by decide) (fun c86 => ?_) (fun c86 => ?_)
          · refine V.iload_n dX6_meets_92 rfl ?_
            refine V.if_neB (tgt := 104) dX6_meets_93 (by decide) (fun c93 => ?_) (fun c93 => ?_)
            · refine V.aload_n dX6_meets_104 rfl ?_
              refine V.iload dX6_meets_105 rfl ?_
              refine V.iconst (v := nI 4) dX6_meets_107 (by decide) ?_
              refine V.callSv [_, _, _] dX6_meets_108 lk_X6_82 rfl (Nat.le_of_ble_eq_true rfl) (Nat.le_of_ble_eq_true rfl) (s6_get _ _ _ _ _ _ ha _ _ (by omega) (by omega)) ?_
              refine V.callSv [_] dX6_meets_111 lk_X6_128 rfl (Nat.le_of_ble_eq_true rfl) (Nat.le_of_ble_eq_true rfl) (s6_halfOf _ _ _ _ _) ?_
              refine V.iload_n dX6_meets_114 rfl ?_
              refine V.icmp_ne (tgt := 124) dX6_meets_115 (by decide) (fun c115 => ?_) (fun c115 => ?_)
              · refine V.inN4 dX6_meets_124 (by decide) rfl ?_
                refine V.goto (tgt := 29) dX6_meets_127 (by decide) ?_
                exact V.qu2 (ih (q + 1) _ _ ha (by first | exact hK | exact hK.tch _) (by omega)) (by (try simp only [← Int32.not_le, Classical.not_not] at c46 c55 c63 c86 c93 c115 ⊢); simp only [hset_hset, mtL, mt1, ← Int32.not_le, c46, c55, c63, c86, c93, c115, not_true_eq_false, not_false_eq_true, if_true, if_false, decide_true, decide_false, Bool.and_true, Bool.and_false, Bool.true_and, Bool.false_and, Bool.or_true, Bool.or_false, Bool.true_or, Bool.false_or, Bool.not_true, Bool.not_false, and_true, and_false, true_and, false_and, or_true, or_false, true_or, false_or, bIt, bIf, Bool.false_eq_true, reduceCtorEq])
              · refine V.aload_n dX6_meets_118 rfl ?_
                refine V.iload dX6_meets_119 rfl ?_
                refine V.callSu [_, _] dX6_meets_121 lk_X6_237 rfl (Nat.le_of_ble_eq_true rfl) (Nat.le_of_ble_eq_true rfl) (s6_touches _ _ _ _ _ _ ha _ (by omega)) ?_
                refine V.inN4 dX6_meets_124 (by decide) rfl ?_
                refine V.goto (tgt := 29) dX6_meets_127 (by decide) ?_
                exact V.qu2 (ih (q + 1) _ _ (hset_self _ _ _) (by first | exact hK | exact hK.tch _) (by omega)) (by (try simp only [← Int32.not_le, Classical.not_not] at c46 c55 c63 c86 c93 c115 ⊢); simp only [hset_hset, mtL, mt1, ← Int32.not_le, c46, c55, c63, c86, c93, eq_true c115, not_true_eq_false, not_false_eq_true, if_true, if_false, decide_true, decide_false, Bool.and_true, Bool.and_false, Bool.true_and, Bool.false_and, Bool.or_true, Bool.or_false, Bool.true_or, Bool.false_or, Bool.not_true, Bool.not_false, and_true, and_false, true_and, false_and, or_true, or_false, true_or, false_or, bIt, bIf, Bool.false_eq_true, reduceCtorEq])
            · refine V.aload_n dX6_meets_96 rfl ?_
              refine V.iload_n dX6_meets_97 rfl ?_
              refine V.callSu [_, _] dX6_meets_98 lk_X6_237 rfl (Nat.le_of_ble_eq_true rfl) (Nat.le_of_ble_eq_true rfl) (s6_touches _ _ _ _ _ _ ha _ (by omega)) ?_
              refine V.goto (tgt := 124) dX6_meets_101 (by decide) ?_
              refine V.inN4 dX6_meets_124 (by decide) rfl ?_
              refine V.goto (tgt := 29) dX6_meets_127 (by decide) ?_
              exact V.qu2 (ih (q + 1) _ _ (hset_self _ _ _) (by first | exact hK | exact hK.tch _) (by omega)) (by (try simp only [← Int32.not_le, Classical.not_not] at c46 c55 c63 c86 c93 ⊢); simp only [hset_hset, mtL, mt1, ← Int32.not_le, c46, c55, c63, c86, c93, not_true_eq_false, not_false_eq_true, if_true, if_false, decide_true, decide_false, Bool.and_true, Bool.and_false, Bool.true_and, Bool.false_and, Bool.or_true, Bool.or_false, Bool.true_or, Bool.false_or, Bool.not_true, Bool.not_false, and_true, and_false, true_and, false_and, or_true, or_false, true_or, false_or, bIt, bIf, Bool.false_eq_true, reduceCtorEq])
          · refine V.goto (tgt := 124) dX6_meets_89 (by decide) ?_
            refine V.inN4 dX6_meets_124 (by decide) rfl ?_
            refine V.goto (tgt := 29) dX6_meets_127 (by decide) ?_
            exact V.qu2 (ih (q + 1) _ _ ha (by first | exact hK | exact hK.tch _) (by omega)) (by (try simp only [← Int32.not_le, Classical.not_not] at c46 c55 c63 c86 ⊢); simp only [hset_hset, mtL, mt1, ← Int32.not_le, c46, c55, c63, c86, not_true_eq_false, not_false_eq_true, if_true, if_false, decide_true, decide_false, Bool.and_true, Bool.and_false, Bool.true_and, Bool.false_and, Bool.or_true, Bool.or_false, Bool.true_or, Bool.false_or, Bool.not_true, Bool.not_false, and_true, and_false, true_and, false_and, or_true, or_false, true_or, false_or, bIt, bIf, Bool.false_eq_true, reduceCtorEq])
set_option maxRecDepth 20000 in
set_option maxHeartbeats 4000000 in
theorem s6_meets (l : Launch) (d : Nat) (h : MH) (n a : Nat) (K : KK) (ha : h a = some (kc K)) (p m : Nat) (hK : KR K m) (hp : p < m) : Sp l mX6_meets (d + 2) [.ref a, .int (nI p)] h n 0 0 (Pu (hset h a (kc (mts K m p))) n) := by
  have hm10 := hK.2.1
  show V _ _ _ _ [some (.ref a), some (.int (nI p)), none, none, none] _ _ _ _ _ _
  refine V.aload_n dX6_meets_0 rfl ?_
  refine V.iload_n dX6_meets_1 rfl ?_
  refine V.iconst (v := nI 0) dX6_meets_2 (by decide) ?_
  refine V.callSv [_, _, _] dX6_meets_3 lk_X6_82 rfl (Nat.le_of_ble_eq_true rfl) (Nat.le_of_ble_eq_true rfl) (s6_get _ _ _ _ _ _ ha _ _ (by omega) (by omega)) ?_
  refine V.ist2 dX6_meets_6 (by decide) rfl ?_
  refine V.aload_n dX6_meets_7 rfl ?_
  refine V.iload_n dX6_meets_8 rfl ?_
  refine V.iconst (v := nI 4) dX6_meets_9 (by decide) ?_
  refine V.callSv [_, _, _] dX6_meets_10 lk_X6_82 rfl (Nat.le_of_ble_eq_true rfl) (Nat.le_of_ble_eq_true rfl) (s6_get _ _ _ _ _ _ ha _ _ (by omega) (by omega)) ?_
  refine V.callSv [_] dX6_meets_13 lk_X6_128 rfl (Nat.le_of_ble_eq_true rfl) (Nat.le_of_ble_eq_true rfl) (s6_halfOf _ _ _ _ _) ?_
  refine V.iload_n dX6_meets_16 rfl ?_
  refine V.icmp_ne (tgt := 24) dX6_meets_17 (by decide) (fun c17 => ?_) (fun c17 => ?_)
  · refine V.iconst (v := nI 0) dX6_meets_24 (by decide) ?_
    refine V.ist3 dX6_meets_25 (by decide) rfl ?_
    refine V.iconst (v := nI 0) dX6_meets_26 (by decide) ?_
    refine V.ist4 dX6_meets_27 (by decide) rfl ?_
    exact V.ls (by first | rw [← bIt] | rw [← bIf]) (V.qu2 (s6_meets_loop l d n a p _ _ m hp m 0 K h ha hK (by omega)) (by simp only [mts, c17, not_true_eq_false, not_false_eq_true, if_true, if_false, decide_true, decide_false, Bool.and_true, Bool.and_false, Bool.true_and, Bool.false_and, Bool.or_true, Bool.or_false, Bool.true_or, Bool.false_or, Bool.not_true, Bool.not_false, and_true, and_false, true_and, false_and, or_true, or_false, true_or, false_or, bIt, bIf, Bool.false_eq_true, reduceCtorEq]))
  · refine V.iconst (v := nI 1) dX6_meets_20 (by decide) ?_
    refine V.goto (tgt := 25) dX6_meets_21 (by decide) ?_
    refine V.ist3 dX6_meets_25 (by decide) rfl ?_
    refine V.iconst (v := nI 0) dX6_meets_26 (by decide) ?_
    refine V.ist4 dX6_meets_27 (by decide) rfl ?_
    exact V.ls (by first | rw [← bIt] | rw [← bIf]) (V.qu2 (s6_meets_loop l d n a p _ _ m hp m 0 K h ha hK (by omega)) (by simp only [mts, eq_true c17, not_true_eq_false, not_false_eq_true, if_true, if_false, decide_true, decide_false, Bool.and_true, Bool.and_false, Bool.true_and, Bool.false_and, Bool.or_true, Bool.or_false, Bool.true_or, Bool.false_or, Bool.not_true, Bool.not_false, and_true, and_false, true_and, false_and, or_true, or_false, true_or, false_or, bIt, bIf, Bool.false_eq_true, reduceCtorEq]))
def acC (K : KK) (p : Nat) : KK := if frB K p = true then (if K (97 + 2 * (1 - (gP K p 0).toNatClampNeg)) = nI p then (if hfc (gP K p 4) = gP K p 0 then upd K 92 (gP K p 0) else K) else K) else K
def act (K : KK) (m p : Nat) : KK := acC (mts (if 0 < gP K p 6 then upd K (114 + 7 * p + 6) (gP K p 6 - nI 1) else mvs K m p) m p) p
theorem KR.acC {K : KK} {m : Nat} (h : KR K m) (p : Nat) : KR (acC K p) m := by
  unfold Jvm.Pilot.CTwoFlagsLaw_law_r4094_467254.acC
  repeat' split
  all_goals first | exact h | exact h.lo _ _ (by omega) (by omega)
theorem KR.act {K : KK} {m p : Nat} (h : KR K m) (hp : p < m) (hf : gP K p 5 = nI 0) : KR (act K m p) m := by
  unfold Jvm.Pilot.CTwoFlagsLaw_law_r4094_467254.act
  refine KR.acC ?_ p
  unfold mts
  refine KR.mtL _ _ _ _ _ _ ?_
  split
  · exact h.pl p 6 _ (by omega) (fun q => by omega) (fun q => by omega)
  · exact h.mvs hp hf
set_option maxRecDepth 20000 in
set_option maxHeartbeats 4000000 in
theorem s6_acts_c (l : Launch) (d : Nat) (h : MH) (n a : Nat) (K : KK) (ha : h a = some (kc K)) (p m : Nat) (hK : KR K m) (hp : p < m) : V l mX6_acts (d + 2) 39 [some (.ref a), some (.int (nI p))] [] h n 0 0 (Pu (hset h a (kc (acC K p))) n) := by
  have hm10 := hK.2.1
  obtain ⟨e0, he, hs⟩ := hK.2.2.1 p hp
  refine V.aload_n dX6_acts_39 rfl ?_
  refine V.iload_n dX6_acts_40 rfl ?_
  refine V.callSv [_, _] dX6_acts_41 lk_X6_181 rfl (Nat.le_of_ble_eq_true rfl) (Nat.le_of_ble_eq_true rfl) (s6_isFree _ _ _ _ _ _ ha _ (by omega)) ?_
  refine V.if_eqB (tgt := 91) dX6_acts_44 (by decide) (fun c44 => ?_) (fun c44 => ?_)
  · exact V.vretP (by exact dX6_acts_91) rfl (by (try simp only [← Int32.not_le, Classical.not_not] at c44 ⊢); (try simp only [hs] at c44); simp only [acC, hs, clampI (show e0 < 2147483648 by omega), c44, not_true_eq_false, not_false_eq_true, if_true, if_false, decide_true, decide_false, Bool.and_true, Bool.and_false, Bool.true_and, Bool.false_and, Bool.or_true, Bool.or_false, Bool.true_or, Bool.false_or, Bool.not_true, Bool.not_false, and_true, and_false, true_and, false_and, or_true, or_false, true_or, false_or, bIt, bIf, Bool.false_eq_true, reduceCtorEq] <;> first | rfl | exact (hset_id ha).symm)
  · refine V.aload_n dX6_acts_47 rfl ?_
    refine V.iconst (v := nI 1) dX6_acts_48 (by decide) ?_
    refine V.aload_n dX6_acts_49 rfl ?_
    refine V.iload_n dX6_acts_50 rfl ?_
    refine V.iconst (v := nI 0) dX6_acts_51 (by decide) ?_
    refine V.callSv [_, _, _] dX6_acts_52 lk_X6_82 rfl (Nat.le_of_ble_eq_true rfl) (Nat.le_of_ble_eq_true rfl) (s6_get _ _ _ _ _ _ ha _ _ (by omega) (by omega)) ?_
    rw [hs]
    refine V.isubN dX6_acts_55 (by omega) ?_
    refine V.callSv [_, _] dX6_acts_56 lk_X6_188 rfl (Nat.le_of_ble_eq_true rfl) (Nat.le_of_ble_eq_true rfl) (s6_carrierOf _ _ _ _ _ _ ha _ (by omega)) ?_
    refine V.iload_n dX6_acts_59 rfl ?_
    refine V.icmp_ne (tgt := 91) dX6_acts_60 (by decide) (fun c60 => ?_) (fun c60 => ?_)
    · exact V.vretP (by exact dX6_acts_91) rfl (by (try simp only [← Int32.not_le, Classical.not_not] at c44 c60 ⊢); (try simp only [hs] at c44 c60); simp only [acC, hs, clampI (show e0 < 2147483648 by omega), c44, c60, not_true_eq_false, not_false_eq_true, if_true, if_false, decide_true, decide_false, Bool.and_true, Bool.and_false, Bool.true_and, Bool.false_and, Bool.or_true, Bool.or_false, Bool.true_or, Bool.false_or, Bool.not_true, Bool.not_false, and_true, and_false, true_and, false_and, or_true, or_false, true_or, false_or, bIt, bIf, Bool.false_eq_true, reduceCtorEq] <;> first | rfl | exact (hset_id ha).symm)
    · refine V.aload_n dX6_acts_63 rfl ?_
      refine V.iload_n dX6_acts_64 rfl ?_
      refine V.iconst (v := nI 4) dX6_acts_65 (by decide) ?_
      refine V.callSv [_, _, _] dX6_acts_66 lk_X6_82 rfl (Nat.le_of_ble_eq_true rfl) (Nat.le_of_ble_eq_true rfl) (s6_get _ _ _ _ _ _ ha _ _ (by omega) (by omega)) ?_
      refine V.callSv [_] dX6_acts_69 lk_X6_128 rfl (Nat.le_of_ble_eq_true rfl) (Nat.le_of_ble_eq_true rfl) (s6_halfOf _ _ _ _ _) ?_
      refine V.aload_n dX6_acts_72 rfl ?_
      refine V.iload_n dX6_acts_73 rfl ?_
      refine V.iconst (v := nI 0) dX6_acts_74 (by decide) ?_
      refine V.callSv [_, _, _] dX6_acts_75 lk_X6_82 rfl (Nat.le_of_ble_eq_true rfl) (Nat.le_of_ble_eq_true rfl) (s6_get _ _ _ _ _ _ ha _ _ (by omega) (by omega)) ?_
      refine V.icmp_ne (tgt := 91) dX6_acts_78 (by decide) (fun c78 => ?_) (fun c78 => ?_)
      · exact V.vretP (by exact dX6_acts_91) rfl (by (try simp only [← Int32.not_le, Classical.not_not] at c44 c60 c78 ⊢); (try simp only [hs] at c44 c60 c78); simp only [acC, hs, clampI (show e0 < 2147483648 by omega), c44, eq_true c60, c78, not_true_eq_false, not_false_eq_true, if_true, if_false, decide_true, decide_false, Bool.and_true, Bool.and_false, Bool.true_and, Bool.false_and, Bool.or_true, Bool.or_false, Bool.true_or, Bool.false_or, Bool.not_true, Bool.not_false, and_true, and_false, true_and, false_and, or_true, or_false, true_or, false_or, bIt, bIf, Bool.false_eq_true, reduceCtorEq] <;> first | rfl | exact (hset_id ha).symm)
      · refine V.aload_n dX6_acts_81 rfl ?_
        refine V.bipush (v := nI 92) dX6_acts_82 (by decide) ?_
        refine V.aload_n dX6_acts_84 rfl ?_
        refine V.iload_n dX6_acts_85 rfl ?_
        refine V.iconst (v := nI 0) dX6_acts_86 (by decide) ?_
        refine V.callSv [_, _, _] dX6_acts_87 lk_X6_82 rfl (Nat.le_of_ble_eq_true rfl) (Nat.le_of_ble_eq_true rfl) (s6_get _ _ _ _ _ _ ha _ _ (by omega) (by omega)) ?_
        refine V.iastN dX6_acts_90 ha (by omega) (by decide) ?_
        exact V.vretP (by exact dX6_acts_91) rfl (by (try simp only [← Int32.not_le, Classical.not_not] at c44 c60 c78 ⊢); (try simp only [hs] at c44 c60 c78); simp only [acC, hs, clampI (show e0 < 2147483648 by omega), c44, eq_true c60, eq_true c78, not_true_eq_false, not_false_eq_true, if_true, if_false, decide_true, decide_false, Bool.and_true, Bool.and_false, Bool.true_and, Bool.false_and, Bool.or_true, Bool.or_false, Bool.true_or, Bool.false_or, Bool.not_true, Bool.not_false, and_true, and_false, true_and, false_and, or_true, or_false, true_or, false_or, bIt, bIf, Bool.false_eq_true, reduceCtorEq] <;> first | rfl | exact (hset_id ha).symm)
set_option maxRecDepth 20000 in
set_option maxHeartbeats 4000000 in
theorem s6_acts_b (l : Launch) (d : Nat) (h : MH) (n a : Nat) (K : KK) (ha : h a = some (kc K)) (p m : Nat) (hK : KR K m) (hp : p < m) : V l mX6_acts (d + 3) 34 [some (.ref a), some (.int (nI p))] [] h n 0 0 (Pu (hset h a (kc (acC (mts K m p) p))) n) := by
  have hm10 := hK.2.1
  refine V.aload_n dX6_acts_34 rfl ?_
  refine V.iload_n dX6_acts_35 rfl ?_
  refine V.callSu [_, _] dX6_acts_36 lk_X6_243 rfl (Nat.le_of_ble_eq_true rfl) (Nat.le_of_ble_eq_true rfl) (s6_meets _ _ _ _ _ _ ha _ _ hK hp) ?_
  exact V.qu2 (s6_acts_c l _ _ n a _ (hset_self _ _ _) p m (by unfold mts; exact KR.mtL _ _ _ _ _ _ hK) hp) (by simp only [hset_hset])
set_option maxRecDepth 20000 in
set_option maxHeartbeats 4000000 in
theorem s6_acts (l : Launch) (d : Nat) (h : MH) (n a : Nat) (K : KK) (ha : h a = some (kc K)) (p m : Nat) (hK : KR K m) (hp : p < m) (hf : gP K p 5 = nI 0) : Sp l mX6_acts (d + 7) [.ref a, .int (nI p)] h n 0 0 (Pu (hset h a (kc (act K m p))) n) := by
  have hm10 := hK.2.1
  show V _ _ _ _ [some (.ref a), some (.int (nI p))] _ _ _ _ _ _
  refine V.aload_n dX6_acts_0 rfl ?_
  refine V.iload_n dX6_acts_1 rfl ?_
  refine V.bipush (v := nI 6) dX6_acts_2 (by decide) ?_
  refine V.callSv [_, _, _] dX6_acts_4 lk_X6_82 rfl (Nat.le_of_ble_eq_true rfl) (Nat.le_of_ble_eq_true rfl) (s6_get _ _ _ _ _ _ ha _ _ (by omega) (by omega)) ?_
  refine V.if_le (tgt := 29) dX6_acts_7 (by decide) (fun c7 => ?_) (fun c7 => ?_)
  · refine V.aload_n dX6_acts_29 rfl ?_
    refine V.iload_n dX6_acts_30 rfl ?_
    refine V.callSu [_, _] dX6_acts_31 lk_X6_240 rfl (Nat.le_of_ble_eq_true rfl) (Nat.le_of_ble_eq_true rfl) (s6_moves _ _ _ _ _ _ ha _ _ hK hp hf) ?_
    exact V.qu2 (s6_acts_b l _ _ n a _ (hset_self _ _ _) p m (hK.mvs hp hf) hp) (by (try simp only [← Int32.not_le, Classical.not_not] at c7 ⊢); simp only [hset_hset, act, ← Int32.not_le, c7, not_true_eq_false, not_false_eq_true, if_true, if_false, decide_true, decide_false, Bool.and_true, Bool.and_false, Bool.true_and, Bool.false_and, Bool.or_true, Bool.or_false, Bool.true_or, Bool.false_or, Bool.not_true, Bool.not_false, and_true, and_false, true_and, false_and, or_true, or_false, true_or, false_or, bIt, bIf, Bool.false_eq_true, reduceCtorEq])
  · refine V.aload_n dX6_acts_10 rfl ?_
    refine V.iload_n dX6_acts_11 rfl ?_
    refine V.bipush (v := nI 6) dX6_acts_12 (by decide) ?_
    refine V.aload_n dX6_acts_14 rfl ?_
    refine V.iload_n dX6_acts_15 rfl ?_
    refine V.bipush (v := nI 6) dX6_acts_16 (by decide) ?_
    refine V.callSv [_, _, _] dX6_acts_18 lk_X6_82 rfl (Nat.le_of_ble_eq_true rfl) (Nat.le_of_ble_eq_true rfl) (s6_get _ _ _ _ _ _ ha _ _ (by omega) (by omega)) ?_
    refine V.iconst (v := nI 1) dX6_acts_21 (by decide) ?_
    refine V.isub dX6_acts_22 ?_
    refine V.callSu [_, _, _, _] dX6_acts_23 lk_X6_86 rfl (Nat.le_of_ble_eq_true rfl) (Nat.le_of_ble_eq_true rfl) (s6_puts _ _ _ _ _ _ ha _ _ _ (by omega) (by omega)) ?_
    refine V.goto (tgt := 34) dX6_acts_26 (by decide) ?_
    exact V.qu2 (s6_acts_b l _ _ n a _ (hset_self _ _ _) p m (hK.pl p 6 _ (by omega) (fun q => by omega) (fun q => by omega)) hp) (by (try simp only [← Int32.not_le, Classical.not_not] at c7 ⊢); simp only [hset_hset, act, ← Int32.not_le, c7, not_true_eq_false, not_false_eq_true, if_true, if_false, decide_true, decide_false, Bool.and_true, Bool.and_false, Bool.true_and, Bool.false_and, Bool.or_true, Bool.or_false, Bool.true_or, Bool.false_or, Bool.not_true, Bool.not_false, and_true, and_false, true_and, false_and, or_true, or_false, true_or, false_or, bIt, bIf, Bool.false_eq_true, reduceCtorEq])
def scL (m : Nat) : Nat → Nat → KK → KK
  | 0, _, K => K
  | r + 1, p, K => if K 92 = nI 2 then scL m r (p + 1) (if frB K p = true then act K m p else K) else K
def sec (K : KK) (m : Nat) : KK := upd (scL m m 0 K) 91 (scL m m 0 K 91 + nI 1)
theorem KR.scL {m : Nat} : ∀ (r p : Nat) (K : KK), KR K m → p + r ≤ m → KR (scL m r p K) m := by
  intro r
  induction r with
  | zero => intro p K h _; exact h
  | succ r ih =>
    intro p K h hp
    rw [Jvm.Pilot.CTwoFlagsLaw_law_r4094_467254.scL]
    split
    · refine ih _ _ ?_ (by omega)
      split
      · exact h.act (by omega) (frB_z (by assumption))
      · exact h
    · exact h
theorem kr_if {K : KK} {m p : Nat} {b : Bool} (h : KR K m) (hp : p < m) (hb : frB K p = b) : KR (if b = true then Jvm.Pilot.CTwoFlagsLaw_law_r4094_467254.act K m p else K) m := by
  split
  · exact h.act hp (frB_z (hb.trans (by assumption)))
  · exact h
theorem KR.sec {K : KK} {m : Nat} (h : KR K m) : KR (sec K m) m := (KR.scL m 0 K h (by omega)).lo _ _ (by omega) (by omega)
set_option maxRecDepth 20000 in
set_option maxHeartbeats 4000000 in
theorem s6_second_end (l : Launch) (d : Nat) (h : MH) (n a : Nat) (K : KK) (ha : h a = some (kc K)) : V l mX6_second d 37 [some (.ref a), none] [] h n 0 0 (Pu (hset h a (kc (upd K 91 (K 91 + nI 1)))) n) := by
  refine V.aload_n dX6_second_37 rfl ?_
  refine V.bipush (v := nI 91) dX6_second_38 (by decide) ?_
  refine V.dup2 dX6_second_40 rfl rfl ?_
  refine V.ialdN dX6_second_41 ha (by omega) (by decide) ?_
  refine V.iconst (v := nI 1) dX6_second_42 (by decide) ?_
  refine V.iadd dX6_second_43 ?_
  refine V.iastN dX6_second_44 ha (by omega) (by decide) ?_
  exact V.vretP (by exact dX6_second_45) rfl rfl
set_option maxRecDepth 20000 in
set_option maxHeartbeats 4000000 in
theorem s6_second_loop (l : Launch) (d : Nat) (n a m : Nat) : ∀ (r p : Nat) (K : KK) (h : MH), h a = some (kc K) → KR K m → p + r = m → V l mX6_second (d + 8) 2 [some (.ref a), some (.int (nI p))] [] h n 0 0 (Pu (hset h a (kc (upd (scL m r p K) 91 (scL m r p K 91 + nI 1)))) n) := by
  intro r
  induction r with
  | zero =>
    intro p K h ha hK hp
    have hm10 := hK.2.1
    refine V.iload_n dX6_second_2 rfl ?_
    refine V.aload_n dX6_second_3 rfl ?_
    refine V.bipush (v := nI 90) dX6_second_4 (by decide) ?_
    refine V.ialdN dX6_second_6 ha (by omega) (by decide) ?_
    rw [hK.1]
    refine V.icmp_geN (tgt := 37) dX6_second_7 (by decide) (by omega) (by omega) (fun _ => ?_) (fun q => absurd q (by omega))
    exact V.drop 1 (V.qu2 (s6_second_end l _ _ n a _ ha) (by simp only [scL, not_true_eq_false, not_false_eq_true, if_true, if_false, decide_true, decide_false, Bool.and_true, Bool.and_false, Bool.true_and, Bool.false_and, Bool.or_true, Bool.or_false, Bool.true_or, Bool.false_or, Bool.not_true, Bool.not_false, and_true, and_false, true_and, false_and, or_true, or_false, true_or, false_or, bIt, bIf, Bool.false_eq_true, reduceCtorEq]))
  | succ r ih =>
    intro p K h ha hK hp
    have hm10 := hK.2.1
    refine V.iload_n dX6_second_2 rfl ?_
    refine V.aload_n dX6_second_3 rfl ?_
    refine V.bipush (v := nI 90) dX6_second_4 (by decide) ?_
    refine V.ialdN dX6_second_6 ha (by omega) (by decide) ?_
    rw [hK.1]
    refine V.icmp_geN (tgt := 37) dX6_second_7 (by decide) (by omega) (by omega) (fun q => absurd q (by omega)) (fun _ => ?_)
    refine V.aload_n dX6_second_10 rfl ?_
    refine V.bipush (v := nI 92) dX6_second_11 (by decide) ?_
    refine V.ialdN dX6_second_13 ha (by omega) (by decide) ?_
    refine V.iconst (v := nI 2) dX6_second_14 (by decide) ?_
    refine V.icmp_ne (tgt := 37) dX6_second_15 (by decide) (fun c15 => ?_) (fun c15 => ?_)
    · exact V.drop 1 (V.qu2 (s6_second_end l _ _ n a _ ha) (by simp only [scL, c15, not_true_eq_false, not_false_eq_true, if_true, if_false, decide_true, decide_false, Bool.and_true, Bool.and_false, Bool.true_and, Bool.false_and, Bool.or_true, Bool.or_false, Bool.true_or, Bool.false_or, Bool.not_true, Bool.not_false, and_true, and_false, true_and, false_and, or_true, or_false, true_or, false_or, bIt, bIf, Bool.false_eq_true, reduceCtorEq]))
    · refine V.aload_n dX6_second_18 rfl ?_
      refine V.iload_n dX6_second_19 rfl ?_
      refine V.callSv [_, _] dX6_second_20 lk_X6_181 rfl (Nat.le_of_ble_eq_true rfl) (Nat.le_of_ble_eq_true rfl) (s6_isFree _ _ _ _ _ _ ha _ (by omega)) ?_
      refine V.if_eqB (tgt := 31) dX6_second_23 (by decide) (fun c23 => ?_) (fun c23 => ?_)
      · refine V.inN1 dX6_second_31 (by decide) rfl ?_
        refine V.goto (tgt := 2) dX6_second_34 (by decide) ?_
        exact V.qu2 (ih (p + 1) _ _ ha (kr_if hK (by omega) c23) (by omega)) (by simp only [hset_hset, scL, eq_true c15, c23, not_true_eq_false, not_false_eq_true, if_true, if_false, decide_true, decide_false, Bool.and_true, Bool.and_false, Bool.true_and, Bool.false_and, Bool.or_true, Bool.or_false, Bool.true_or, Bool.false_or, Bool.not_true, Bool.not_false, and_true, and_false, true_and, false_and, or_true, or_false, true_or, false_or, bIt, bIf, Bool.false_eq_true, reduceCtorEq])
      · refine V.aload_n dX6_second_26 rfl ?_
        refine V.iload_n dX6_second_27 rfl ?_
        refine V.callSu [_, _] dX6_second_28 lk_X6_246 rfl (Nat.le_of_ble_eq_true rfl) (Nat.le_of_ble_eq_true rfl) (s6_acts _ _ _ _ _ _ ha _ _ hK (by omega) (frB_z c23)) ?_
        refine V.inN1 dX6_second_31 (by decide) rfl ?_
        refine V.goto (tgt := 2) dX6_second_34 (by decide) ?_
        exact V.qu2 (ih (p + 1) _ _ (hset_self _ _ _) (kr_if hK (by omega) c23) (by omega)) (by simp only [hset_hset, scL, eq_true c15, c23, not_true_eq_false, not_false_eq_true, if_true, if_false, decide_true, decide_false, Bool.and_true, Bool.and_false, Bool.true_and, Bool.false_and, Bool.or_true, Bool.or_false, Bool.true_or, Bool.false_or, Bool.not_true, Bool.not_false, and_true, and_false, true_and, false_and, or_true, or_false, true_or, false_or, bIt, bIf, Bool.false_eq_true, reduceCtorEq])
set_option maxRecDepth 20000 in
set_option maxHeartbeats 4000000 in
theorem s6_second (l : Launch) (d : Nat) (h : MH) (n a : Nat) (K : KK) (ha : h a = some (kc K)) (m : Nat) (hK : KR K m) : Sp l mX6_second (d + 8) [.ref a] h n 0 0 (Pu (hset h a (kc (sec K m))) n) := by
  show V _ _ _ _ [some (.ref a), none] _ _ _ _ _ _
  refine V.iconst (v := nI 0) dX6_second_0 (by decide) ?_
  refine V.ist1 dX6_second_1 (by decide) rfl ?_
  exact s6_second_loop l d n a m m 0 K h ha hK (by omega)
