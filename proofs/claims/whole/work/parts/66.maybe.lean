/-- what the reference has marked, come to way w of cell c -/
def pW (K : KK) (c0 t c w j : Nat) : Bool := eB (fun c1 => decide (lv K c0 t c1 = some t) && adjM c1 j) c || (decide (lv K c0 t c = some t) && eB (fun w1 => decide (mbs c w1 = some j)) w)
def mkO (K : KK) (c0 t : Nat) (P : Nat → Bool) (j : Nat) : Option Nat := oE (lv K c0 t j) (if (opC K j && P j) = true then some (t + 1) else none)
def mkB (K : KK) (c0 t : Nat) (P : Nat → Bool) (j : Nat) : Bool := decide (lv K c0 t j = none) && (opC K j && P j)
theorem pW_s (K : KK) (c0 t c w j : Nat) (hL : lv K c0 t c = some t) : pW K c0 t c (w + 1) j = (pW K c0 t c w j || decide (mbs c w = some j)) := by
  unfold pW
  rw [decide_eq_true hL, eB, Bool.true_and, Bool.true_and, Bool.or_assoc]
theorem pW_4 (K : KK) (c0 t c j : Nat) (hL : lv K c0 t c = some t) : pW K c0 t c 4 j = pW K c0 t (c + 1) 0 j := by
  show (eB (fun c1 => decide (lv K c0 t c1 = some t) && adjM c1 j) c || (decide (lv K c0 t c = some t) && adjM c j)) = ((eB (fun c1 => decide (lv K c0 t c1 = some t) && adjM c1 j) c || (decide (lv K c0 t c = some t) && adjM c j)) || (decide (lv K c0 t (c + 1) = some t) && false))
  rw [Bool.and_false, Bool.or_false]
theorem pW_n (K : KK) (c0 t c j : Nat) (hL : ¬ lv K c0 t c = some t) : pW K c0 t c 0 j = pW K c0 t (c + 1) 0 j := by
  show (eB (fun c1 => decide (lv K c0 t c1 = some t) && adjM c1 j) c || (decide (lv K c0 t c = some t) && false)) = ((eB (fun c1 => decide (lv K c0 t c1 = some t) && adjM c1 j) c || (decide (lv K c0 t c = some t) && adjM c j)) || (decide (lv K c0 t (c + 1) = some t) && false))
  rw [decide_eq_false hL]
  simp
theorem eB_congr {f g : Nat → Bool} : ∀ {m : Nat}, (∀ i, i < m → f i = g i) → eB f m = eB g m := by
  intro m
  induction m with
  | zero => intro _; rfl
  | succ m ih => intro h; rw [eB, eB, ih (fun i hi => h i (by omega)), h m (by omega)]
theorem pW_e (K : KK) (c0 t j : Nat) (hj : j < 84) : pW K c0 t 84 0 j = nbr K c0 t j := by
  show (eB (fun c1 => decide (lv K c0 t c1 = some t) && adjM c1 j) 84 || (decide (lv K c0 t 84 = some t) && false)) = eB (fun c => decide (lv K c0 t c = some t) && adjC j c) 84
  rw [Bool.and_false, Bool.or_false]
  exact eB_congr (fun c hc => by rw [adj_MC, adj_sym hc hj])
theorem mkO_t {K : KK} {c0 t : Nat} {P : Nat → Bool} {j : Nat} : mkO K c0 t P j = some t ↔ lv K c0 t j = some t := by
  unfold mkO
  cases q : lv K c0 t j with
  | some s => exact Iff.rfl
  | none =>
    show (if (opC K j && P j) = true then some (t + 1) else none) = some t ↔ none = some t
    constructor
    · intro h
      split at h
      · have := Option.some.inj h; omega
      · cases h
    · intro h; cases h
theorem mkO_le {K : KK} {c0 t : Nat} {P : Nat → Bool} {j s : Nat} (h : mkO K c0 t P j = some s) : s ≤ t + 1 := by
  unfold mkO at h
  cases q : lv K c0 t j with
  | some s2 =>
    rw [q] at h
    have e := Option.some.inj (show some s2 = some s from h)
    have := lv_le K c0 t j s2 q
    omega
  | none =>
    rw [q] at h
    change (if (opC K j && P j) = true then some (t + 1) else none) = some s at h
    split at h
    · have := Option.some.inj h; omega
    · cases h
theorem gI_t {o : Option Nat} {t : Nat} (ht : t ≤ 1000) (ho : ∀ s, o = some s → s ≤ 1000) : gI o = nI t ↔ o = some t := by
  cases o with
  | none => exact ⟨fun h => absurd h (neg4_ne (by omega)), fun h => by cases h⟩
  | some s =>
    have := ho s rfl
    exact ⟨fun h => congrArg some ((nI_eq (by omega) (by omega)).mp h), fun h => by rw [Option.some.inj h]; rfl⟩
set_option maxRecDepth 20000 in
set_option maxHeartbeats 4000000 in
theorem m_may_w (l : Launch) (d : Nat) (h : MH) (n : Nat) (K : KK) (b : Bool) (th po ba en tt : Int32) (hm0 : h 78 = some (.inr (6, moF b th po ba en tt))) (ha : h 79 = some (kc K)) (c0 N t c : Nat) (hN : N ≤ 20) (ht : t < N) (hc : c < 84) (hL : lv K c0 t c = some t) {Q : Option Value → MH → Nat → Prop} (kk : ∀ B : Nat → Int32, (∀ j, j < 84 → B j = gI (mkO K c0 t (pW K c0 t c 4) j)) → V l mX6_mayBe (d + 2) 160 [some (.ref 78), some (.int (nI c0)), some (.int (nI N)), some (.int (nI (mbC K c0 t + cN (mkB K c0 t (pW K c0 t c 4)) 84))), some (.int (nI t)), some (.int (nI c)), none, none] [] (hset h 92 (.inl (0, 84, .inl B))) n 0 0 Q) : ∀ (r w : Nat) (B : Nat → Int32), (∀ j, j < 84 → B j = gI (mkO K c0 t (pW K c0 t c w) j)) → w + r = 4 → V l mX6_mayBe (d + 2) 84 [some (.ref 78), some (.int (nI c0)), some (.int (nI N)), some (.int (nI (mbC K c0 t + cN (mkB K c0 t (pW K c0 t c w)) 84))), some (.int (nI t)), some (.int (nI c)), some (.int (nI w)), none] [] (hset h 92 (.inl (0, 84, .inl B))) n 0 0 Q := by
  intro r
  induction r with
  | zero =>
    intro w B hB hw
    refine V.iload dX6_mayBe_84 rfl ?_
    refine V.iconst (v := nI 4) dX6_mayBe_86 (by decide) ?_
    refine V.icmp_geN (tgt := 160) dX6_mayBe_87 (by decide) (by omega) (by omega) (fun _ => ?_) (fun q => absurd q (by omega))
    have hw4 : w = 4 := by omega
    subst hw4
    exact V.drop 6 (kk B hB)
  | succ r ih =>
    intro w B hB hw
    refine V.iload dX6_mayBe_84 rfl ?_
    refine V.iconst (v := nI 4) dX6_mayBe_86 (by decide) ?_
    refine V.icmp_geN (tgt := 160) dX6_mayBe_87 (by decide) (by omega) (by omega) (fun q => absurd q (by omega)) (fun _ => ?_)
    refine V.aload_n dX6_mayBe_90 rfl ?_
    refine V.getf dX6_mayBe_91 fl_X6_49 (o_ne hm0 (by decide)) rfl ?_
    refine V.iload dX6_mayBe_94 rfl ?_
    refine V.ialdN dX6_mayBe_96 (hset_self _ _ _) (by omega) (by decide) ?_
    rw [hB c (by omega)]
    refine V.iload dX6_mayBe_97 rfl ?_
    refine V.icmp_ne (tgt := 160) dX6_mayBe_99 (by decide) (fun q => absurd ((gI_t (by omega) (fun s hs => by have := mkO_le hs; omega)).mpr (mkO_t.mpr hL)) q) (fun _ => ?_)
    refine V.iload dX6_mayBe_102 rfl ?_
    refine V.iload dX6_mayBe_104 rfl ?_
    refine V.callSv [_, _] dX6_mayBe_106 lk_X6_296 rfl (Nat.le_of_ble_eq_true rfl) (Nat.le_of_ble_eq_true rfl) (s6_beside _ _ _ _ _ _ (by omega) (by omega)) ?_
    refine V.ist7 dX6_mayBe_109 (by decide) rfl ?_
    refine V.iload dX6_mayBe_111 rfl ?_
    cases hb : mbs c w with
    | none =>
      refine V.if_lt (tgt := 154) dX6_mayBe_113 (by decide) (fun _ => ?_) (fun q => absurd (by decide) q)
      have hP2 : ∀ j, (opC K j && pW K c0 t c (w + 1) j) = (opC K j && pW K c0 t c w j) ∨ ¬ lv K c0 t j = none := fun j => by
        rw [pW_s K c0 t c w j hL]
        exact Or.inl (by rw [hb]; simp)
      have hO2 : ∀ j, gI (mkO K c0 t (pW K c0 t c w) j) = gI (mkO K c0 t (pW K c0 t c (w + 1)) j) := fun j => by
        rcases hP2 j with y | y
        · unfold mkO; rw [y]
        · unfold mkO
          cases q : lv K c0 t j with
          | none => exact absurd q y
          | some s => rfl
      have hB2 : ∀ j, mkB K c0 t (pW K c0 t c w) j = mkB K c0 t (pW K c0 t c (w + 1)) j := fun j => by
        rcases hP2 j with y | y
        · unfold mkB; rw [y]
        · unfold mkB; rw [decide_eq_false y]; rfl
      refine V.inN6 dX6_mayBe_154 (by decide) rfl ?_
      refine V.goto (tgt := 84) dX6_mayBe_157 (by decide) ?_
      refine V.drop 7 (V.ls ?_ (ih (w + 1) B (fun j hj => ?_) (by omega)))
      · rw [cN_congr (fun j _ => hB2 j)] <;> rfl
      · rw [hB j hj, hO2 j]
    | some j0 =>
      have hj0 : j0 < 84 := adj_lt (by omega) ((adj_MC c j0).symm.trans ((eB_iff _ _).mpr ⟨w, by omega, decide_eq_true hb⟩))
      refine V.if_lt (tgt := 154) dX6_mayBe_113 (by decide) (fun q => absurd q (nI_pos (by omega))) (fun _ => ?_)
      refine V.aload_n dX6_mayBe_116 rfl ?_
      refine V.getf dX6_mayBe_117 fl_X6_9 (o_ne hm0 (by decide)) rfl ?_
      refine V.iload dX6_mayBe_120 rfl ?_
      refine V.ialdN dX6_mayBe_122 (o_ne ha (by decide)) (by omega) (by decide) ?_
      refine V.iconst (v := nI 3) dX6_mayBe_123 (by decide) ?_
      refine V.icmp_eq (tgt := 154) dX6_mayBe_124 (by decide) (fun c124 => ?_) (fun c124 => ?_)
      · have hP2 : ∀ j, (opC K j && pW K c0 t c (w + 1) j) = (opC K j && pW K c0 t c w j) ∨ ¬ lv K c0 t j = none := fun j => by
          rw [pW_s K c0 t c w j hL]
          by_cases y : j = j0
          · subst y; exact Or.inl (by rw [opC, decide_eq_true c124]; rfl)
          · exact Or.inl (by rw [hb, decide_eq_false (fun e => y (Option.some.inj e).symm), Bool.or_false])
        have hO2 : ∀ j, gI (mkO K c0 t (pW K c0 t c w) j) = gI (mkO K c0 t (pW K c0 t c (w + 1)) j) := fun j => by
          rcases hP2 j with y | y
          · unfold mkO; rw [y]
          · unfold mkO
            cases q : lv K c0 t j with
            | none => exact absurd q y
            | some s => rfl
        have hB2 : ∀ j, mkB K c0 t (pW K c0 t c w) j = mkB K c0 t (pW K c0 t c (w + 1)) j := fun j => by
          rcases hP2 j with y | y
          · unfold mkB; rw [y]
          · unfold mkB; rw [decide_eq_false y]; rfl
        refine V.inN6 dX6_mayBe_154 (by decide) rfl ?_
        refine V.goto (tgt := 84) dX6_mayBe_157 (by decide) ?_
        refine V.drop 7 (V.ls ?_ (ih (w + 1) B (fun j hj => ?_) (by omega)))
        · rw [cN_congr (fun j _ => hB2 j)] <;> rfl
        · rw [hB j hj, hO2 j]
      · refine V.aload_n dX6_mayBe_127 rfl ?_
        refine V.getf dX6_mayBe_128 fl_X6_49 (o_ne hm0 (by decide)) rfl ?_
        refine V.iload dX6_mayBe_131 rfl ?_
        refine V.ialdN dX6_mayBe_133 (hset_self _ _ _) hj0 (by decide) ?_
        rw [hB j0 hj0]
        cases hm : mkO K c0 t (pW K c0 t c w) j0 with
        | some s =>
          have hsl := mkO_le hm
          refine V.if_lt (tgt := 140) dX6_mayBe_134 (by decide) (fun q => absurd q (nI_pos (by omega))) (fun _ => ?_)
          refine V.goto (tgt := 154) dX6_mayBe_137 (by decide) ?_
          have hP2 : ∀ j, (opC K j && pW K c0 t c (w + 1) j) = (opC K j && pW K c0 t c w j) ∨ ¬ lv K c0 t j = none := fun j => by
            rw [pW_s K c0 t c w j hL]
            by_cases y : j = j0
            · subst y
              cases q : lv K c0 t j with
              | some s2 => exact Or.inr (by simp)
              | none =>
                refine Or.inl ?_
                cases qp : pW K c0 t c w j with
                | true => simp
                | false =>
                  unfold mkO at hm
                  rw [q, qp, Bool.and_false] at hm
                  cases hm
            · exact Or.inl (by rw [hb, decide_eq_false (fun e => y (Option.some.inj e).symm), Bool.or_false])
          have hO2 : ∀ j, gI (mkO K c0 t (pW K c0 t c w) j) = gI (mkO K c0 t (pW K c0 t c (w + 1)) j) := fun j => by
            rcases hP2 j with y | y
            · unfold mkO; rw [y]
            · unfold mkO
              cases q : lv K c0 t j with
              | none => exact absurd q y
              | some s => rfl
          have hB2 : ∀ j, mkB K c0 t (pW K c0 t c w) j = mkB K c0 t (pW K c0 t c (w + 1)) j := fun j => by
            rcases hP2 j with y | y
            · unfold mkB; rw [y]
            · unfold mkB; rw [decide_eq_false y]; rfl
          refine V.inN6 dX6_mayBe_154 (by decide) rfl ?_
          refine V.goto (tgt := 84) dX6_mayBe_157 (by decide) ?_
          refine V.drop 7 (V.ls ?_ (ih (w + 1) B (fun j hj => ?_) (by omega)))
          · rw [cN_congr (fun j _ => hB2 j)] <;> rfl
          · rw [hB j hj, hO2 j]
        | none =>
          refine V.if_lt (tgt := 140) dX6_mayBe_134 (by decide) (fun _ => ?_) (fun q => absurd (by decide) q)
          have hl0 : lv K c0 t j0 = none := by
            unfold mkO at hm
            cases q : lv K c0 t j0 with
            | none => rfl
            | some s => rw [q] at hm; cases hm
          have hop : opC K j0 = true := by rw [opC, decide_eq_false c124]; rfl
          have hp0 : pW K c0 t c w j0 = false := by
            cases qp : pW K c0 t c w j0 with
            | false => rfl
            | true =>
              unfold mkO at hm
              rw [hl0, qp, hop] at hm
              cases hm
          refine V.aload_n dX6_mayBe_140 rfl ?_
          refine V.getf dX6_mayBe_141 fl_X6_49 (o_ne hm0 (by decide)) rfl ?_
          refine V.iload dX6_mayBe_144 rfl ?_
          refine V.iload dX6_mayBe_146 rfl ?_
          refine V.iconst (v := nI 1) dX6_mayBe_148 (by decide) ?_
          refine V.iaddN dX6_mayBe_149 ?_
          refine V.iastN dX6_mayBe_150 (hset_self _ _ _) hj0 (by decide) ?_
          rw [hset_hset]
          refine V.inN3 dX6_mayBe_151 (by decide) rfl ?_
          refine V.inN6 dX6_mayBe_154 (by decide) rfl ?_
          refine V.goto (tgt := 84) dX6_mayBe_157 (by decide) ?_
          have hfl : cN (mkB K c0 t (pW K c0 t c (w + 1))) 84 = cN (mkB K c0 t (pW K c0 t c w)) 84 + 1 := by
            refine cN_flip (b := j0) ?_ ?_ (fun j hj => ?_) hj0
            · unfold mkB; rw [hp0]; simp
            · unfold mkB; rw [pW_s K c0 t c w j0 hL, hb, hl0, hop]; simp
            · unfold mkB; rw [pW_s K c0 t c w j hL, hb, decide_eq_false (fun e => hj (Option.some.inj e).symm), Bool.or_false]
          refine V.drop 7 (V.ls ?_ (ih (w + 1) (upd B j0 (nI (t + 1))) (fun j hj => ?_) (by omega)))
          · rw [hfl]; rfl
          · by_cases y : j = j0
            · subst y
              rw [pk_us]
              unfold mkO
              rw [hl0, pW_s K c0 t c w j hL, hb, hop]
              simp
              rfl
            · rw [pk_un y, hB j hj]
              unfold mkO
              rw [pW_s K c0 t c w j hL, hb, decide_eq_false (fun e => y (Option.some.inj e).symm), Bool.or_false]
set_option maxRecDepth 20000 in
set_option maxHeartbeats 4000000 in
theorem m_may_c (l : Launch) (d : Nat) (h : MH) (n : Nat) (K : KK) (b : Bool) (th po ba en tt : Int32) (hm0 : h 78 = some (.inr (6, moF b th po ba en tt))) (ha : h 79 = some (kc K)) (c0 N t : Nat) (hN : N ≤ 20) (ht : t < N) {Q : Option Value → MH → Nat → Prop} (kk : ∀ B : Nat → Int32, (∀ j, j < 84 → B j = gI (mkO K c0 t (pW K c0 t 84 0) j)) → V l mX6_mayBe (d + 2) 166 [some (.ref 78), some (.int (nI c0)), some (.int (nI N)), some (.int (nI (mbC K c0 t + cN (mkB K c0 t (pW K c0 t 84 0)) 84))), some (.int (nI t)), none, none, none] [] (hset h 92 (.inl (0, 84, .inl B))) n 0 0 Q) : ∀ (r c : Nat) (B : Nat → Int32), (∀ j, j < 84 → B j = gI (mkO K c0 t (pW K c0 t c 0) j)) → c + r = 84 → V l mX6_mayBe (d + 2) 74 [some (.ref 78), some (.int (nI c0)), some (.int (nI N)), some (.int (nI (mbC K c0 t + cN (mkB K c0 t (pW K c0 t c 0)) 84))), some (.int (nI t)), some (.int (nI c)), none, none] [] (hset h 92 (.inl (0, 84, .inl B))) n 0 0 Q := by
  intro r
  induction r with
  | zero =>
    intro c B hB hc
    refine V.iload dX6_mayBe_74 rfl ?_
    refine V.bipush (v := nI 84) dX6_mayBe_76 (by decide) ?_
    refine V.icmp_geN (tgt := 166) dX6_mayBe_78 (by decide) (by omega) (by omega) (fun _ => ?_) (fun q => absurd q (by omega))
    have hc84 : c = 84 := by omega
    subst hc84
    exact V.drop 5 (kk B hB)
  | succ r ih =>
    intro c B hB hc
    refine V.iload dX6_mayBe_74 rfl ?_
    refine V.bipush (v := nI 84) dX6_mayBe_76 (by decide) ?_
    refine V.icmp_geN (tgt := 166) dX6_mayBe_78 (by decide) (by omega) (by omega) (fun q => absurd q (by omega)) (fun _ => ?_)
    refine V.iconst (v := nI 0) dX6_mayBe_81 (by decide) ?_
    refine V.ist6 dX6_mayBe_82 (by decide) rfl ?_
    by_cases hL : lv K c0 t c = some t
    · refine m_may_w l d h n K b th po ba en tt hm0 ha c0 N t c hN ht (by omega) hL (fun B1 hB1 => ?_) 4 0 B hB (by omega)
      refine V.inN5 dX6_mayBe_160 (by decide) rfl ?_
      refine V.goto (tgt := 74) dX6_mayBe_163 (by decide) ?_
      exact V.ls (by rw [cN_congr (f := mkB K c0 t (pW K c0 t c 4)) (g := mkB K c0 t (pW K c0 t (c + 1) 0)) (fun j _ => by unfold mkB; rw [pW_4 K c0 t c j hL])] <;> rfl) (ih (c + 1) B1 (fun j hj => by rw [hB1 j hj]; unfold mkO; rw [pW_4 K c0 t c j hL]) (by omega))
    · refine V.iload dX6_mayBe_84 rfl ?_
      refine V.iconst (v := nI 4) dX6_mayBe_86 (by decide) ?_
      refine V.icmp_ge (tgt := 160) dX6_mayBe_87 (by decide) (fun q => absurd q (by decide)) (fun _ => ?_)
      refine V.aload_n dX6_mayBe_90 rfl ?_
      refine V.getf dX6_mayBe_91 fl_X6_49 (o_ne hm0 (by decide)) rfl ?_
      refine V.iload dX6_mayBe_94 rfl ?_
      refine V.ialdN dX6_mayBe_96 (hset_self _ _ _) (by omega) (by decide) ?_
      rw [hB c (by omega)]
      refine V.iload dX6_mayBe_97 rfl ?_
      refine V.icmp_ne (tgt := 160) dX6_mayBe_99 (by decide) (fun _ => ?_) (fun q => absurd (mkO_t.mp ((gI_t (by omega) (fun s hs => by have := mkO_le hs; omega)).mp q)) hL)
      refine V.inN5 dX6_mayBe_160 (by decide) rfl ?_
      refine V.goto (tgt := 74) dX6_mayBe_163 (by decide) ?_
      exact V.drop 6 (V.ls (by rw [cN_congr (f := mkB K c0 t (pW K c0 t c 0)) (g := mkB K c0 t (pW K c0 t (c + 1) 0)) (fun j _ => by unfold mkB; rw [pW_n K c0 t c j hL])] <;> rfl) (ih (c + 1) B (fun j hj => by rw [hB j hj]; unfold mkO; rw [pW_n K c0 t c j hL]) (by omega)))
/-- the reference's row of steps alone has changed -/
def Qt (v : Int32) (h : MH) (n : Nat) : Option Value → MH → Nat → Prop := fun r h1 n1 => r = some (.int v) ∧ n1 = n ∧ ∃ X : Nat → Int32, h1 = hset h 92 (.inl (0, 84, .inl X))
set_option maxRecDepth 20000 in
set_option maxHeartbeats 4000000 in
theorem m_may_t (l : Launch) (d : Nat) (h : MH) (n : Nat) (K : KK) (b : Bool) (th po ba en tt : Int32) (hm0 : h 78 = some (.inr (6, moF b th po ba en tt))) (ha : h 79 = some (kc K)) (c0 N : Nat) (hN : N ≤ 20) : ∀ (r t : Nat) (B : Nat → Int32), (∀ j, j < 84 → B j = gI (lv K c0 t j)) → t + r = N → V l mX6_mayBe (d + 2) 65 [some (.ref 78), some (.int (nI c0)), some (.int (nI N)), some (.int (nI (mbC K c0 t))), some (.int (nI t)), none, none, none] [] (hset h 92 (.inl (0, 84, .inl B))) n 0 0 (Qt (nI (mbC K c0 N)) h n) := by
  intro r
  induction r with
  | zero =>
    intro t B hB ht
    refine V.iload dX6_mayBe_65 rfl ?_
    refine V.iload_n dX6_mayBe_67 rfl ?_
    refine V.icmp_geN (tgt := 172) dX6_mayBe_68 (by decide) (by omega) (by omega) (fun _ => ?_) (fun q => absurd q (by omega))
    refine V.iload_n dX6_mayBe_172 rfl ?_
    have htN : t = N := by omega
    subst htN
    exact V.iret (by exact dX6_mayBe_173) rfl rfl ⟨rfl, rfl, B, rfl⟩
  | succ r ih =>
    intro t B hB ht
    refine V.iload dX6_mayBe_65 rfl ?_
    refine V.iload_n dX6_mayBe_67 rfl ?_
    refine V.icmp_geN (tgt := 172) dX6_mayBe_68 (by decide) (by omega) (by omega) (fun q => absurd q (by omega)) (fun _ => ?_)
    refine V.iconst (v := nI 0) dX6_mayBe_71 (by decide) ?_
    refine V.ist5 dX6_mayBe_72 (by decide) rfl ?_
    have h0 : ∀ j, pW K c0 t 0 0 j = false := fun j => by
      show (false || (decide (lv K c0 t 0 = some t) && false)) = false
      rw [Bool.and_false]; rfl
    have hmk : ∀ j, mkO K c0 t (pW K c0 t 0 0) j = lv K c0 t j := fun j => by
      unfold mkO
      rw [h0, Bool.and_false]
      cases lv K c0 t j <;> rfl
    have hcz : cN (mkB K c0 t (pW K c0 t 0 0)) 84 = 0 := cN_zero (fun j _ => by unfold mkB; rw [h0, Bool.and_false, Bool.and_false])
    refine V.ls (show _ = [some (.ref 78), some (.int (nI c0)), some (.int (nI N)), some (.int (nI (mbC K c0 t + cN (mkB K c0 t (pW K c0 t 0 0)) 84))), some (.int (nI t)), some (.int (nI 0)), none, none] by rw [hcz]; rfl) (m_may_c l d h n K b th po ba en tt hm0 ha c0 N t hN (by omega) (fun B1 hB1 => ?_) 84 0 B (fun j hj => by rw [hmk]; exact hB j hj) (by omega))
    refine V.inN4 dX6_mayBe_166 (by decide) rfl ?_
    refine V.goto (tgt := 65) dX6_mayBe_169 (by decide) ?_
    refine V.ls ?_ (ih (t + 1) B1 (fun j hj => ?_) (by omega))
    · rw [mbC, cN_congr (f := mkB K c0 t (pW K c0 t 84 0)) (g := nwB K c0 t) (fun j hj => by unfold mkB nwB; rw [pW_e K c0 t j hj])]
    · rw [hB1 j hj, lv]
      unfold mkO
      rw [pW_e K c0 t j hj]
      rfl
set_option maxRecDepth 20000 in
set_option maxHeartbeats 4000000 in
theorem m_may_f (l : Launch) (d : Nat) (h : MH) (n : Nat) (b : Bool) (th po ba en tt : Int32) (hm0 : h 78 = some (.inr (6, moF b th po ba en tt))) (c0 N : Nat) {Q : Option Value → MH → Nat → Prop} (kk : ∀ B : Nat → Int32, (∀ j, j < 84 → B j = -4) → V l mX6_mayBe d 53 [some (.ref 78), some (.int (nI c0)), some (.int (nI N)), none, none, none, none, none] [] (hset h 92 (.inl (0, 84, .inl B))) n 0 0 Q) : ∀ (r i : Nat) (B : Nat → Int32), (∀ j, j < i → B j = -4) → i + r = 84 → V l mX6_mayBe d 33 [some (.ref 78), some (.int (nI c0)), some (.int (nI N)), some (.int (nI i)), none, none, none, none] [] (hset h 92 (.inl (0, 84, .inl B))) n 0 0 Q := by
  intro r
  induction r with
  | zero =>
    intro i B hB hi
    refine V.iload_n dX6_mayBe_33 rfl ?_
    refine V.bipush (v := nI 84) dX6_mayBe_34 (by decide) ?_
    refine V.icmp_geN (tgt := 53) dX6_mayBe_36 (by decide) (by omega) (by omega) (fun _ => ?_) (fun q => absurd q (by omega))
    exact V.drop 3 (kk B (fun j hj => hB j (by omega)))
  | succ r ih =>
    intro i B hB hi
    refine V.iload_n dX6_mayBe_33 rfl ?_
    refine V.bipush (v := nI 84) dX6_mayBe_34 (by decide) ?_
    refine V.icmp_geN (tgt := 53) dX6_mayBe_36 (by decide) (by omega) (by omega) (fun q => absurd q (by omega)) (fun _ => ?_)
    refine V.aload_n dX6_mayBe_39 rfl ?_
    refine V.getf dX6_mayBe_40 fl_X6_49 (o_ne hm0 (by decide)) rfl ?_
    refine V.iload_n dX6_mayBe_43 rfl ?_
    refine V.bipush (v := -4) dX6_mayBe_44 (by decide) ?_
    refine V.iastN dX6_mayBe_46 (hset_self _ _ _) (by omega) (by decide) ?_
    rw [hset_hset]
    refine V.inN3 dX6_mayBe_47 (by decide) rfl ?_
    refine V.goto (tgt := 33) dX6_mayBe_50 (by decide) ?_
    refine ih (i + 1) _ (fun j hj => ?_) (by omega)
    by_cases y : j = i
    · subst y; rw [pk_us]
    · rw [pk_un y]; exact hB j (by omega)
set_option maxRecDepth 20000 in
set_option maxHeartbeats 4000000 in
theorem m_mayBe (l : Launch) (d : Nat) (h : MH) (n : Nat) (K : KK) (b : Bool) (KI : KK) (S : SS) (m : Nat) (hc : ModAt h K b KI S) (hT : TI K m) (x y : Int32) : Sp l mX6_mayBe (d + 2) [.ref 78, .int x, .int y] h n 0 0 (Qm (mayV K x y) K b KI S h n) := by
  have hD := hT.1
  have hm := hD.1.1
  have hm10 := hD.1.2.1
  obtain ⟨⟨th, po, ba, en, tt, hm0⟩, ha, hb, ⟨Km, hmi⟩, ⟨Kr, hre⟩, h83, h84, h85, h86, h87, h88, ⟨X89, h89⟩, ⟨X90, h90⟩, ⟨X91, h91⟩, ⟨X92, h92⟩⟩ := id hc
  show V _ _ _ _ [some (.ref 78), some (.int x), some (.int y), none, none, none, none, none] _ _ _ _ _ _
  refine V.iload_n dX6_mayBe_0 rfl ?_
  refine V.callSv [_] dX6_mayBe_1 lk_X6_169 rfl (Nat.le_of_ble_eq_true rfl) (Nat.le_of_ble_eq_true rfl) (s6_isCell _ _ _ _ _) ?_
  refine V.if_eqB (tgt := 29) dX6_mayBe_4 (by decide) (fun c4 => ?_) (fun c4 => ?_)
  · refine V.iconst (v := -1) dX6_mayBe_29 (by decide) ?_
    exact V.iret (by exact dX6_mayBe_30) rfl rfl ⟨by first | (simp only [mayV, c4, not_true_eq_false, not_false_eq_true, if_true, if_false, decide_true, decide_false, Bool.and_true, Bool.and_false, Bool.true_and, Bool.false_and, Bool.or_true, Bool.or_false, Bool.true_or, Bool.false_or, Bool.not_true, Bool.not_false, and_true, and_false, true_and, false_and, or_true, or_false, true_or, false_or, bIt, bIf, Bool.false_eq_true, reduceCtorEq]; done) | (simp only [mayV, clampI (show c0 < 2147483648 by omega), c4, not_true_eq_false, not_false_eq_true, if_true, if_false, decide_true, decide_false, Bool.and_true, Bool.and_false, Bool.true_and, Bool.false_and, Bool.or_true, Bool.or_false, Bool.true_or, Bool.false_or, Bool.not_true, Bool.not_false, and_true, and_false, true_and, false_and, or_true, or_false, true_or, false_or, bIt, bIf, Bool.false_eq_true, reduceCtorEq]; done), rfl, hc, fun _ _ => rfl⟩
  · refine V.iload_n dX6_mayBe_7 rfl ?_
    refine V.i2l dX6_mayBe_8 ?_
    refine V.lconst (v := 0) dX6_mayBe_9 (by decide) ?_
    refine V.ldc2 dX6_mayBe_10 cn_X6_302 ?_
    refine V.callSv [_, _, _] dX6_mayBe_13 lk_X6_62 rfl (Nat.le_of_ble_eq_true rfl) (Nat.le_of_ble_eq_true rfl) (s6_isInC _ _ _ (nI 0) (nI 20) (by decide) (by decide) _ _) ?_
    refine V.if_eqB (tgt := 29) dX6_mayBe_16 (by decide) (fun c16 => ?_) (fun c16 => ?_)
    · refine V.iconst (v := -1) dX6_mayBe_29 (by decide) ?_
      exact V.iret (by exact dX6_mayBe_30) rfl rfl ⟨by first | (simp only [mayV, c4, c16, not_true_eq_false, not_false_eq_true, if_true, if_false, decide_true, decide_false, Bool.and_true, Bool.and_false, Bool.true_and, Bool.false_and, Bool.or_true, Bool.or_false, Bool.true_or, Bool.false_or, Bool.not_true, Bool.not_false, and_true, and_false, true_and, false_and, or_true, or_false, true_or, false_or, bIt, bIf, Bool.false_eq_true, reduceCtorEq]; done) | (simp only [mayV, clampI (show c0 < 2147483648 by omega), c4, c16, not_true_eq_false, not_false_eq_true, if_true, if_false, decide_true, decide_false, Bool.and_true, Bool.and_false, Bool.true_and, Bool.false_and, Bool.or_true, Bool.or_false, Bool.true_or, Bool.false_or, Bool.not_true, Bool.not_false, and_true, and_false, true_and, false_and, or_true, or_false, true_or, false_or, bIt, bIf, Bool.false_eq_true, reduceCtorEq]; done), rfl, hc, fun _ _ => rfl⟩
    · refine V.aload_n dX6_mayBe_19 rfl ?_
      obtain ⟨c0, hc0, rfl⟩ := wi_ex (by decide) c4
      refine V.getf dX6_mayBe_20 fl_X6_9 hm0 rfl ?_
      refine V.iload_n dX6_mayBe_23 rfl ?_
      refine V.ialdN dX6_mayBe_24 ha (by omega) (by decide) ?_
      refine V.iconst (v := nI 3) dX6_mayBe_25 (by decide) ?_
      refine V.icmp_ne (tgt := 31) dX6_mayBe_26 (by decide) (fun c26 => ?_) (fun c26 => ?_)
      · obtain ⟨N, hN, rfl⟩ := wi_ex (by decide) c16
        refine V.iconst (v := nI 0) dX6_mayBe_31 (by decide) ?_
        refine V.ist3 dX6_mayBe_32 (by decide) rfl ?_
        have h92b : h 92 = some (.inl (0, 84, .inl X92)) := h92
        refine V.hp (hset_id h92b).symm (m_may_f l (d + 2) h n b th po ba en tt hm0 c0 N (fun B hB => ?_) 84 0 X92 (fun j hj => absurd hj (by omega)) (by omega))
        refine V.aload_n dX6_mayBe_53 rfl ?_
        refine V.getf dX6_mayBe_54 fl_X6_49 (o_ne hm0 (by decide)) rfl ?_
        refine V.iload_n dX6_mayBe_57 rfl ?_
        refine V.iconst (v := nI 0) dX6_mayBe_58 (by decide) ?_
        refine V.iastN dX6_mayBe_59 (hset_self _ _ _) (by omega) (by decide) ?_
        rw [hset_hset]
        refine V.iconst (v := nI 1) dX6_mayBe_60 (by decide) ?_
        refine V.ist3 dX6_mayBe_61 (by decide) rfl ?_
        refine V.iconst (v := nI 0) dX6_mayBe_62 (by decide) ?_
        refine V.ist4 dX6_mayBe_63 (by decide) rfl ?_
        refine V.mono (fun v h1 n1 q => ?_) (m_may_t l d h n K b th po ba en tt hm0 ha c0 N hN N 0 _ (fun j hj => ?_) (by omega))
        · obtain ⟨rfl, rfl, X, rfl⟩ := q
          exact ⟨by simp only [mayV, clampI (show c0 < 2147483648 by omega), clampI (show N < 2147483648 by omega), c4, c16, c26, not_true_eq_false, not_false_eq_true, if_true, if_false, decide_true, decide_false, Bool.and_true, Bool.and_false, Bool.true_and, Bool.false_and, Bool.or_true, Bool.or_false, Bool.true_or, Bool.false_or, Bool.not_true, Bool.not_false, and_true, and_false, true_and, false_and, or_true, or_false, true_or, false_or, bIt, bIf, Bool.false_eq_true, reduceCtorEq], rfl, hc.steps X, fun q hq => hset_ne _ _ (by omega)⟩
        · rw [lv]
          by_cases y : j = c0
          · subst y; rw [pk_us, if_pos rfl]; rfl
          · rw [pk_un y, if_neg y]; exact hB j hj
      · refine V.iconst (v := -1) dX6_mayBe_29 (by decide) ?_
        exact V.iret (by exact dX6_mayBe_30) rfl rfl ⟨by first | (simp only [mayV, c4, c16, eq_true c26, not_true_eq_false, not_false_eq_true, if_true, if_false, decide_true, decide_false, Bool.and_true, Bool.and_false, Bool.true_and, Bool.false_and, Bool.or_true, Bool.or_false, Bool.true_or, Bool.false_or, Bool.not_true, Bool.not_false, and_true, and_false, true_and, false_and, or_true, or_false, true_or, false_or, bIt, bIf, Bool.false_eq_true, reduceCtorEq]; done) | (simp only [mayV, clampI (show c0 < 2147483648 by omega), c4, c16, eq_true c26, not_true_eq_false, not_false_eq_true, if_true, if_false, decide_true, decide_false, Bool.and_true, Bool.and_false, Bool.true_and, Bool.false_and, Bool.or_true, Bool.or_false, Bool.true_or, Bool.false_or, Bool.not_true, Bool.not_false, and_true, and_false, true_and, false_and, or_true, or_false, true_or, false_or, bIt, bIf, Bool.false_eq_true, reduceCtorEq]; done), rfl, hc, fun _ _ => rfl⟩
