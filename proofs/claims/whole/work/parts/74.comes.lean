set_option maxRecDepth 20000 in
set_option maxHeartbeats 4000000 in
theorem s6_isHome (l : Launch) (d : Nat) (h : MH) (n a : Nat) (K : KK) (ha : h a = some (kc K)) (s c : Int32) (hc : cellv c) : Sp l mX6_isHome (d + 3) [.ref a, .int s, .int c] h n 0 0 (Pv (bI (hmB K s c)) h n) := by
  show V _ _ _ _ [some (.ref a), some (.int s), some (.int c)] _ _ _ _ _ _
  refine V.iload_n dX6_isHome_0 rfl ?_
  refine V.callSv [_] dX6_isHome_1 lk_X6_128 rfl (Nat.le_of_ble_eq_true rfl) (Nat.le_of_ble_eq_true rfl) (s6_halfOf _ _ _ _ _) ?_
  refine V.iload_n dX6_isHome_4 rfl ?_
  refine V.icmp_ne (tgt := 28) dX6_isHome_5 (by decide) (fun c5 => ?_) (fun c5 => ?_)
  · refine V.iconst (v := nI 0) dX6_isHome_28 (by decide) ?_
    exact V.iretZ (by exact dX6_isHome_29) rfl (by simp only [hmB, c5, not_true_eq_false, not_false_eq_true, if_true, if_false, decide_true, decide_false, Bool.and_true, Bool.and_false, Bool.true_and, Bool.false_and, Bool.or_true, Bool.or_false, Bool.true_or, Bool.false_or, Bool.not_true, Bool.not_false, and_true, and_false, true_and, false_and, or_true, or_false, true_or, false_or, bIt, bIf, Bool.false_eq_true, reduceCtorEq]) rfl
  · refine V.aload_n dX6_isHome_8 rfl ?_
    refine V.iload_n dX6_isHome_9 rfl ?_
    refine V.ialdC dX6_isHome_10 ha hc (by decide) (by decide) ?_
    refine V.iconst (v := nI 3) dX6_isHome_11 (by decide) ?_
    refine V.icmp_eq (tgt := 28) dX6_isHome_12 (by decide) (fun c12 => ?_) (fun c12 => ?_)
    · refine V.iconst (v := nI 0) dX6_isHome_28 (by decide) ?_
      exact V.iretZ (by exact dX6_isHome_29) rfl (by simp only [hmB, eq_true c5, eq_true c12, not_true_eq_false, not_false_eq_true, if_true, if_false, decide_true, decide_false, Bool.and_true, Bool.and_false, Bool.true_and, Bool.false_and, Bool.or_true, Bool.or_false, Bool.true_or, Bool.false_or, Bool.not_true, Bool.not_false, and_true, and_false, true_and, false_and, or_true, or_false, true_or, false_or, bIt, bIf, Bool.false_eq_true, reduceCtorEq]) rfl
    · refine V.aload_n dX6_isHome_15 rfl ?_
      refine V.iload_n dX6_isHome_16 rfl ?_
      refine V.iload_n dX6_isHome_17 rfl ?_
      refine V.callSv [_, _, _] dX6_isHome_18 lk_X6_131 rfl (Nat.le_of_ble_eq_true rfl) (Nat.le_of_ble_eq_true rfl) (s6_isRing _ _ _ _ _ _ ha _ _) ?_
      refine V.if_neB (tgt := 28) dX6_isHome_21 (by decide) (fun c21 => ?_) (fun c21 => ?_)
      · refine V.iconst (v := nI 0) dX6_isHome_28 (by decide) ?_
        exact V.iretZ (by exact dX6_isHome_29) rfl (by simp only [hmB, eq_true c5, c12, c21, not_true_eq_false, not_false_eq_true, if_true, if_false, decide_true, decide_false, Bool.and_true, Bool.and_false, Bool.true_and, Bool.false_and, Bool.or_true, Bool.or_false, Bool.true_or, Bool.false_or, Bool.not_true, Bool.not_false, and_true, and_false, true_and, false_and, or_true, or_false, true_or, false_or, bIt, bIf, Bool.false_eq_true, reduceCtorEq]) rfl
      · refine V.iconst (v := nI 1) dX6_isHome_24 (by decide) ?_
        refine V.goto (tgt := 29) dX6_isHome_25 (by decide) ?_
        exact V.iretZ (by exact dX6_isHome_29) rfl (by simp only [hmB, eq_true c5, c12, c21, not_true_eq_false, not_false_eq_true, if_true, if_false, decide_true, decide_false, Bool.and_true, Bool.and_false, Bool.true_and, Bool.false_and, Bool.or_true, Bool.or_false, Bool.true_or, Bool.false_or, Bool.not_true, Bool.not_false, and_true, and_false, true_and, false_and, or_true, or_false, true_or, false_or, bIt, bIf, Bool.false_eq_true, reduceCtorEq]) rfl
set_option maxRecDepth 20000 in
set_option maxHeartbeats 4000000 in
theorem s6_areHomes_loop (l : Launch) (d : Nat) (H : MH) (n : Nat) (b : Bool) (th po ba en tt : Int32) (hm0 : H 78 = some (.inr (6, moF b th po ba en tt))) (K : KK) (ha : H 82 = some (kc K)) (m : Nat) (hm : K 90 = nI m) (hm10 : m ≤ 10) (hcl : ∀ p, p < m → cellv (gP K p 3)) : ∀ (r p : Nat), aB (fun p => hmB K (gP K p 0) (gP K p 3)) p = true → p + r = m → V l mX6_areHomes (d + 4) 2 [some (.ref 78), some (.int (nI p))] [] H n 0 0 (Pv (bI (hmA K m)) H n) := by
  intro r
  induction r with
  | zero =>
    intro p hh hp
    refine V.iload_n dX6_areHomes_2 rfl ?_
    refine V.aload_n dX6_areHomes_3 rfl ?_
    refine V.getf dX6_areHomes_4 fl_X6_19 hm0 rfl ?_
    refine V.bipush (v := nI 90) dX6_areHomes_7 (by decide) ?_
    refine V.ialdN dX6_areHomes_9 ha (by omega) (by decide) ?_
    rw [hm]
    refine V.icmp_geN (tgt := 49) dX6_areHomes_10 (by decide) (by omega) (by omega) (fun _ => ?_) (fun q => absurd q (by omega))
    refine V.iconst (v := nI 1) dX6_areHomes_49 (by decide) ?_
    exact V.iretZ (by exact dX6_areHomes_50) rfl (by rw [hmA, show m = p by omega, hh]; rfl) rfl
  | succ r ih =>
    intro p hh hp
    refine V.iload_n dX6_areHomes_2 rfl ?_
    refine V.aload_n dX6_areHomes_3 rfl ?_
    refine V.getf dX6_areHomes_4 fl_X6_19 hm0 rfl ?_
    refine V.bipush (v := nI 90) dX6_areHomes_7 (by decide) ?_
    refine V.ialdN dX6_areHomes_9 ha (by omega) (by decide) ?_
    rw [hm]
    refine V.icmp_geN (tgt := 49) dX6_areHomes_10 (by decide) (by omega) (by omega) (fun q => absurd q (by omega)) (fun _ => ?_)
    refine V.aload_n dX6_areHomes_13 rfl ?_
    refine V.getf dX6_areHomes_14 fl_X6_19 hm0 rfl ?_
    refine V.aload_n dX6_areHomes_17 rfl ?_
    refine V.getf dX6_areHomes_18 fl_X6_19 hm0 rfl ?_
    refine V.iload_n dX6_areHomes_21 rfl ?_
    refine V.iconst (v := nI 0) dX6_areHomes_22 (by decide) ?_
    refine V.callSv [_, _, _] dX6_areHomes_23 lk_X6_82 rfl (Nat.le_of_ble_eq_true rfl) (Nat.le_of_ble_eq_true rfl) (s6_get _ _ _ _ _ _ ha _ _ (by omega) (by omega)) ?_
    refine V.aload_n dX6_areHomes_26 rfl ?_
    refine V.getf dX6_areHomes_27 fl_X6_19 hm0 rfl ?_
    refine V.iload_n dX6_areHomes_30 rfl ?_
    refine V.iconst (v := nI 3) dX6_areHomes_31 (by decide) ?_
    refine V.callSv [_, _, _] dX6_areHomes_32 lk_X6_82 rfl (Nat.le_of_ble_eq_true rfl) (Nat.le_of_ble_eq_true rfl) (s6_get _ _ _ _ _ _ ha _ _ (by omega) (by omega)) ?_
    refine V.callSv [_, _, _] dX6_areHomes_35 lk_X6_135 rfl (Nat.le_of_ble_eq_true rfl) (Nat.le_of_ble_eq_true rfl) (s6_isHome _ _ _ _ _ _ ha _ _ (hcl p (by omega))) ?_
    refine V.if_neB (tgt := 43) dX6_areHomes_38 (by decide) (fun c38 => ?_) (fun c38 => ?_)
    · refine V.inN1 dX6_areHomes_43 (by decide) rfl ?_
      refine V.goto (tgt := 2) dX6_areHomes_46 (by decide) ?_
      exact ih (p + 1) (by rw [aB, hh, c38]; rfl) (by omega)
    · refine V.iconst (v := nI 0) dX6_areHomes_41 (by decide) ?_
      exact V.iretZ (by exact dX6_areHomes_42) rfl (by rw [hmA, aB_no (show p < m by omega) c38]; rfl) rfl
set_option maxRecDepth 20000 in
set_option maxHeartbeats 4000000 in
theorem s6_areHomes (l : Launch) (d : Nat) (H : MH) (n : Nat) (b : Bool) (th po ba en tt : Int32) (hm0 : H 78 = some (.inr (6, moF b th po ba en tt))) (K : KK) (ha : H 82 = some (kc K)) (m : Nat) (hm : K 90 = nI m) (hm10 : m ≤ 10) (hcl : ∀ p, p < m → cellv (gP K p 3)) : Sp l mX6_areHomes (d + 4) [.ref 78] H n 0 0 (Pv (bI (hmA K m)) H n) := by
  show V _ _ _ _ [some (.ref 78), none] _ _ _ _ _ _
  refine V.iconst (v := nI 0) dX6_areHomes_0 (by decide) ?_
  refine V.ist1 dX6_areHomes_1 (by decide) rfl ?_
  exact s6_areHomes_loop l d H n b th po ba en tt hm0 K ha m hm hm10 hcl m 0 rfl (by omega)
/-- how the reference's method ends -/
def Mq (res : Option KK) (h : MH) (n : Nat) : Option Value → MH → Nat → Prop := fun r h1 n1 => r = some (.int (bI res.isSome)) ∧ n1 = n ∧ ∃ K1 : KK, h1 = hset h 82 (kc K1) ∧ ∀ K2, res = some K2 → K1 = K2
theorem btw_is : ∀ x, x < 12 → ∀ a, a < 12 → ∀ b, b < 12 → (¬ 0 < (nI x - nI a) * (nI x - nI b) ↔ mn a b ≤ x ∧ x ≤ mx a b) := by decide +kernel
def inJ (a b j i : Nat) : Bool := inR a b i && decide (i < j)
def eG0 (g a b : Nat) (K : KK) (m : Nat) : Option KK := if aB (fun j => !inR a b j || mbB K m g j) 84 = true then some (gK K g (inR a b)) else none
theorem hmA_gK {K : KK} {m g a b : Nat} (hHL : HL K m) (hcl : ∀ p, p < m → cellv (gP K p 3)) (hg : g < 4) (hk : ∀ j, j < 84 → inR a b j = true → g = 0 ∨ keptB (nI j) = false) : hmA (gK K g (inR a b)) m = aB (fun j => !inR a b j || mbB K m g j) 84 := by
  have hone : ∀ p, p < m → ∀ c, c < 84 → gP K p 3 = nI c → hmB (gK K g (inR a b)) (gP (gK K g (inR a b)) p 0) (gP (gK K g (inR a b)) p 3) = !(inR a b c && decide (g = 3)) := fun p hp c hc e => by
    have h1 := hHL p hp
    rw [gK_gP, gK_gP, hmB, decide_eq_true h1.1]
    have hr : ring (gK K g (inR a b)) (gP K p 0) (gP K p 3) = false := by
      rw [← h1.2.2]
      unfold ring
      rw [gK_hi _ _ _ _ (by omega)]
    rw [hr, e, clampI (by omega)]
    have h2 := h1.2.1
    rw [e, clampI (by omega)] at h2
    unfold gK
    cases q : inR a b c with
    | false => simp [q, h2]
    | true =>
      simp [q, hc]
      by_cases y : g = 3
      · subst y; simp
      · simp [y]
        exact fun z => y ((nI_eq (by omega) (by omega)).mp z)
  cases q : hmA (gK K g (inR a b)) m with
  | true =>
    symm
    refine aB_all (fun j hj => ?_)
    cases q2 : inR a b j with
    | false => rfl
    | true =>
      show (!true || mbB K m g j) = true
      unfold mbB
      rcases hk j hj q2 with y | y
      · subst y; simp
      · rw [y]
        by_cases y3 : g = 3
        · have hno : eB (fun p => decide (gP K p 3 = nI j)) m = false := by
            cases q3 : eB (fun p => decide (gP K p 3 = nI j)) m with
            | false => rfl
            | true =>
              obtain ⟨p, hp, e⟩ := (eB_iff _ _).mp q3
              have h4 := aB_dn (show p + 1 ≤ m by omega) q
              rw [aB, Bool.and_eq_true, hone p hp j hj (of_decide_eq_true e), q2, decide_eq_true y3] at h4
              exact absurd h4.2 (by decide)
          rw [hno]; simp
        · rw [decide_eq_false y3]; simp
  | false =>
    cases q2 : aB (fun j => !inR a b j || mbB K m g j) 84 with
    | false => rfl
    | true =>
      refine absurd (aB_all (f := fun p => hmB (gK K g (inR a b)) (gP (gK K g (inR a b)) p 0) (gP (gK K g (inR a b)) p 3)) (m := m) (fun p hp => ?_)) (by rw [show aB (fun p => hmB (gK K g (inR a b)) (gP (gK K g (inR a b)) p 0) (gP (gK K g (inR a b)) p 3)) m = false from q]; decide)
      obtain ⟨c, hc, e⟩ := hcl p hp
      rw [hone p hp c hc e]
      cases q3 : inR a b c with
      | false => rfl
      | true =>
        by_cases y3 : g = 3
        · have h4 := aB_dn (show c + 1 ≤ 84 by omega) q2
          rw [aB, Bool.and_eq_true, q3] at h4
          have h5 := h4.2
          rw [mbB, (eB_iff _ _).mpr ⟨p, hp, decide_eq_true e⟩, decide_eq_true y3, decide_eq_false (show ¬ g = 0 by omega)] at h5
          simp at h5
        · rw [decide_eq_false y3]; rfl
set_option maxRecDepth 20000 in
set_option maxHeartbeats 4000000 in
theorem s6_comesGround_loop (l : Launch) (d : Nat) (h : MH) (n : Nat) (b0 : Bool) (th po ba en tt : Int32) (hm0 : h 78 = some (.inr (6, moF b0 th po ba en tt))) (NB : Nat → Int32) (hnb : h 89 = some (ia 6 NB)) (K : KK) (m : Nat) (hm : K 90 = nI m) (hm10 : m ≤ 10) (hHL : HL K m) (hcl : ∀ p, p < m → cellv (gP K p 3)) (g a b : Nat) (hg : g < 4) (ha : a < 84) (hb : b < 84) (hn0 : NB 0 = nI g) : ∀ (r j : Nat), (∀ i, i < 84 → inJ a b j i = true → g = 0 ∨ keptB (nI i) = false) → j + r = 84 → V l mX6_comesGround (d + 5) 16 [some (.ref 78), some (.int (nI a)), some (.int (nI b)), some (.int (nI j)), none, none, none] [] (hset h 82 (kc (gK K g (inJ a b j)))) n 0 0 (Mq (eG0 g a b K m) h n) := by
  intro r
  induction r with
  | zero =>
    intro j hh hj
    refine V.iload_n dX6_comesGround_16 rfl ?_
    refine V.bipush (v := nI 84) dX6_comesGround_17 (by decide) ?_
    refine V.icmp_geN (tgt := 121) dX6_comesGround_19 (by decide) (by omega) (by omega) (fun _ => ?_) (fun q => absurd q (by omega))
    refine V.aload_n dX6_comesGround_121 rfl ?_
    have hJ : ∀ i, i < 84 → inR a b i = inJ a b j i := fun i hi => by rw [inJ, decide_eq_true (show i < j by omega), Bool.and_true]
    rw [gK_eq K g hJ]
    refine V.callVv [] dX6_comesGround_122 lk_X6_141 rfl (Nat.le_of_ble_eq_true rfl) (Nat.le_of_ble_eq_true rfl) (o_ne hm0 (by decide)) rfl (s6_areHomes _ _ _ _ b0 th po ba en tt (o_ne hm0 (by decide)) (gK K g (inR a b)) (hset_self _ _ _) m ((gK_hi _ _ _ _ (by omega)).trans hm) hm10 (fun p hp => by rw [gK_gP]; exact hcl p hp)) ?_
    rw [hmA_gK hHL hcl hg (fun i hi q => hh i hi (by rw [inJ, q, decide_eq_true (show i < j by omega)]; rfl))]
    refine V.iret (by exact dX6_comesGround_125) rfl (bI_narrow _) ⟨?_, rfl, gK K g (inR a b), rfl, fun K2 e => ?_⟩
    · rw [eG0]
      cases aB (fun j => !inR a b j || mbB K m g j) 84 <;> rfl
    · rw [eG0] at e
      split at e
      · exact Option.some.inj e
      · cases e
  | succ r ih =>
    intro j hh hj
    refine V.iload_n dX6_comesGround_16 rfl ?_
    refine V.bipush (v := nI 84) dX6_comesGround_17 (by decide) ?_
    refine V.icmp_geN (tgt := 121) dX6_comesGround_19 (by decide) (by omega) (by omega) (fun q => absurd q (by omega)) (fun _ => ?_)
    refine V.iload_n dX6_comesGround_22 rfl ?_
    refine V.bipush (v := nI 12) dX6_comesGround_23 (by decide) ?_
    refine V.iremN dX6_comesGround_25 (by omega) (by omega) (by omega) ?_
    refine V.ist4 dX6_comesGround_26 (by decide) rfl ?_
    refine V.iload_n dX6_comesGround_28 rfl ?_
    refine V.bipush (v := nI 12) dX6_comesGround_29 (by decide) ?_
    refine V.idivN dX6_comesGround_31 (by omega) (by omega) (by omega) ?_
    refine V.ist5 dX6_comesGround_32 (by decide) rfl ?_
    refine V.iload dX6_comesGround_34 rfl ?_
    refine V.iload_n dX6_comesGround_36 rfl ?_
    refine V.bipush (v := nI 12) dX6_comesGround_37 (by decide) ?_
    refine V.iremN dX6_comesGround_39 (by omega) (by omega) (by omega) ?_
    refine V.isub dX6_comesGround_40 ?_
    refine V.iload dX6_comesGround_41 rfl ?_
    refine V.iload_n dX6_comesGround_43 rfl ?_
    refine V.bipush (v := nI 12) dX6_comesGround_44 (by decide) ?_
    refine V.iremN dX6_comesGround_46 (by omega) (by omega) (by omega) ?_
    refine V.isub dX6_comesGround_47 ?_
    refine V.imul dX6_comesGround_48 ?_
    refine V.if_gt (tgt := 74) dX6_comesGround_49 (by decide) (fun c49 => ?_) (fun c49 => ?_)
    · have hno : inR a b j = false := decide_eq_false (fun q => (btw_is (j % 12) (by omega) (a % 12) (by omega) (b % 12) (by omega)).mpr q.1 c49)
      refine V.iconst (v := nI 0) dX6_comesGround_74 (by decide) ?_
      refine V.ist6 dX6_comesGround_75 (by decide) rfl ?_
      refine V.iload dX6_comesGround_77 rfl ?_
      refine V.if_ne (tgt := 85) dX6_comesGround_79 (by decide) (fun q => absurd rfl q) (fun _ => ?_)
      refine V.goto (tgt := 115) dX6_comesGround_82 (by decide) ?_
      refine V.inN3 dX6_comesGround_115 (by decide) rfl ?_
      refine V.goto (tgt := 16) dX6_comesGround_118 (by decide) ?_
      have hJ : ∀ i, i < 84 → inJ a b (j + 1) i = inJ a b j i := fun i hi => by
        unfold inJ
        by_cases y : i = j
        · subst y; rw [hno]; rfl
        · rw [show decide (i < j + 1) = decide (i < j) from decide_eq_decide.mpr ⟨fun _ => by omega, fun _ => by omega⟩]
      rw [gK_eq K g hJ]
      exact V.drop 4 (V.drop 5 (V.drop 6 (ih (j + 1) (fun i hi q => hh i hi (by rw [← hJ i hi]; exact q)) (by omega))))
    · refine V.iload dX6_comesGround_52 rfl ?_
      refine V.iload_n dX6_comesGround_54 rfl ?_
      refine V.bipush (v := nI 12) dX6_comesGround_55 (by decide) ?_
      refine V.idivN dX6_comesGround_57 (by omega) (by omega) (by omega) ?_
      refine V.isub dX6_comesGround_58 ?_
      refine V.iload dX6_comesGround_59 rfl ?_
      refine V.iload_n dX6_comesGround_61 rfl ?_
      refine V.bipush (v := nI 12) dX6_comesGround_62 (by decide) ?_
      refine V.idivN dX6_comesGround_64 (by omega) (by omega) (by omega) ?_
      refine V.isub dX6_comesGround_65 ?_
      refine V.imul dX6_comesGround_66 ?_
      refine V.if_gt (tgt := 74) dX6_comesGround_67 (by decide) (fun c67 => ?_) (fun c67 => ?_)
      · have hno : inR a b j = false := decide_eq_false (fun q => (btw_is (j / 12) (by omega) (a / 12) (by omega) (b / 12) (by omega)).mpr q.2 c67)
        refine V.iconst (v := nI 0) dX6_comesGround_74 (by decide) ?_
        refine V.ist6 dX6_comesGround_75 (by decide) rfl ?_
        refine V.iload dX6_comesGround_77 rfl ?_
        refine V.if_ne (tgt := 85) dX6_comesGround_79 (by decide) (fun q => absurd rfl q) (fun _ => ?_)
        refine V.goto (tgt := 115) dX6_comesGround_82 (by decide) ?_
        refine V.inN3 dX6_comesGround_115 (by decide) rfl ?_
        refine V.goto (tgt := 16) dX6_comesGround_118 (by decide) ?_
        have hJ : ∀ i, i < 84 → inJ a b (j + 1) i = inJ a b j i := fun i hi => by
          unfold inJ
          by_cases y : i = j
          · subst y; rw [hno]; rfl
          · rw [show decide (i < j + 1) = decide (i < j) from decide_eq_decide.mpr ⟨fun _ => by omega, fun _ => by omega⟩]
        rw [gK_eq K g hJ]
        exact V.drop 4 (V.drop 5 (V.drop 6 (ih (j + 1) (fun i hi q => hh i hi (by rw [← hJ i hi]; exact q)) (by omega))))
      · have hyes : inR a b j = true := decide_eq_true ⟨(btw_is (j % 12) (by omega) (a % 12) (by omega) (b % 12) (by omega)).mp c49, (btw_is (j / 12) (by omega) (a / 12) (by omega) (b / 12) (by omega)).mp c67⟩
        refine V.iconst (v := nI 1) dX6_comesGround_70 (by decide) ?_
        refine V.goto (tgt := 75) dX6_comesGround_71 (by decide) ?_
        refine V.ist6 dX6_comesGround_75 (by decide) rfl ?_
        refine V.iload dX6_comesGround_77 rfl ?_
        refine V.if_ne (tgt := 85) dX6_comesGround_79 (by decide) (fun _ => ?_) (fun q => absurd q (by decide))
        refine V.iload_n dX6_comesGround_85 rfl ?_
        refine V.callSv [_] dX6_comesGround_86 lk_X6_138 rfl (Nat.le_of_ble_eq_true rfl) (Nat.le_of_ble_eq_true rfl) (s6_isKept _ _ _ _ _) ?_
        have fin_ : (g = 0 ∨ keptB (nI j) = false) → V l mX6_comesGround (d + 5) 103 [some (.ref 78), some (.int (nI a)), some (.int (nI b)), some (.int (nI j)), some (.int (nI (j % 12))), some (.int (nI (j / 12))), some (.int (nI 1))] [] (hset h 82 (kc (gK K g (inJ a b j)))) n 0 0 (Mq (eG0 g a b K m) h n) := fun hok => by
          refine V.aload_n dX6_comesGround_103 rfl ?_
          refine V.getf dX6_comesGround_104 fl_X6_19 (o_ne hm0 (by decide)) rfl ?_
          refine V.iload_n dX6_comesGround_107 rfl ?_
          refine V.aload_n dX6_comesGround_108 rfl ?_
          refine V.getf dX6_comesGround_109 fl_X6_40 (o_ne hm0 (by decide)) rfl ?_
          refine V.iconst (v := nI 0) dX6_comesGround_112 (by decide) ?_
          refine V.ialdN dX6_comesGround_113 (o_ne hnb (by decide)) (by omega) (by decide) ?_
          rw [hn0]
          refine V.iastN dX6_comesGround_114 (hset_self _ _ _) (by omega) (by decide) ?_
          rw [hset_hset]
          have hJ : ∀ i, i < 84 → inJ a b (j + 1) i = (inJ a b j i || decide (i = j)) := fun i hi => by
            unfold inJ
            by_cases y : i = j
            · subst y; rw [hyes]; simp
            · rw [show decide (i < j + 1) = decide (i < j) from decide_eq_decide.mpr ⟨fun _ => by omega, fun _ => by omega⟩, decide_eq_false y, Bool.or_false]
          rw [gK_up K g _ _ j (by omega) hJ]
          refine V.inN3 dX6_comesGround_115 (by decide) rfl ?_
          refine V.goto (tgt := 16) dX6_comesGround_118 (by decide) ?_
          exact V.drop 4 (V.drop 5 (V.drop 6 (ih (j + 1) (fun i hi q => by
            rw [hJ i hi, Bool.or_eq_true] at q
            rcases q with q | q
            · exact hh i hi q
            · rw [of_decide_eq_true q]; exact hok) (by omega))))
        refine V.if_eqB (tgt := 103) dX6_comesGround_89 (by decide) (fun c89 => fin_ (Or.inr c89)) (fun c89 => ?_)
        refine V.aload_n dX6_comesGround_92 rfl ?_
        refine V.getf dX6_comesGround_93 fl_X6_40 (o_ne hm0 (by decide)) rfl ?_
        refine V.iconst (v := nI 0) dX6_comesGround_96 (by decide) ?_
        refine V.ialdN dX6_comesGround_97 (o_ne hnb (by decide)) (by omega) (by decide) ?_
        rw [hn0]
        refine V.if_eq (tgt := 103) dX6_comesGround_98 (by decide) (fun c98 => fin_ (Or.inl ((nI_eq (a := g) (b := 0) (by omega) (by omega)).mp c98))) (fun c98 => ?_)
        refine V.iconst (v := nI 0) dX6_comesGround_101 (by decide) ?_
        have hbad : aB (fun j => !inR a b j || mbB K m g j) 84 = false := aB_no (f := fun j => !inR a b j || mbB K m g j) (show j < 84 by omega) (by simp only [hyes, mbB, c89, decide_eq_false (show ¬ g = 0 from fun y => c98 (by rw [y]; rfl))]; rfl)
        exact V.iret (by exact dX6_comesGround_102) rfl (bI_narrow false) ⟨by rw [eG0, hbad]; rfl, rfl, _, rfl, fun K2 e => by rw [eG0, hbad] at e; cases e⟩
set_option maxRecDepth 20000 in
set_option maxHeartbeats 4000000 in
theorem s6_comesGround (l : Launch) (d : Nat) (h : MH) (n : Nat) (b0 : Bool) (th po ba en tt : Int32) (hm0 : h 78 = some (.inr (6, moF b0 th po ba en tt))) (NB : Nat → Int32) (hnb : h 89 = some (ia 6 NB)) (K : KK) (m : Nat) (hm : K 90 = nI m) (hm10 : m ≤ 10) (hHL : HL K m) (hcl : ∀ p, p < m → cellv (gP K p 3)) (g a b : Nat) (hg : g < 4) (ha : a < 84) (hb : b < 84) (hn0 : NB 0 = nI g) (hn1 : NB 1 = nI a) (hn2 : NB 2 = nI b) : Sp l mX6_comesGround (d + 5) [.ref 78] (hset h 82 (kc K)) n 0 0 (Mq (eG0 g a b K m) h n) := by
  show V _ _ _ _ [some (.ref 78), none, none, none, none, none, none] _ _ _ _ _ _
  refine V.aload_n dX6_comesGround_0 rfl ?_
  refine V.getf dX6_comesGround_1 fl_X6_40 (o_ne hm0 (by decide)) rfl ?_
  refine V.iconst (v := nI 1) dX6_comesGround_4 (by decide) ?_
  refine V.ialdN dX6_comesGround_5 (o_ne hnb (by decide)) (by omega) (by decide) ?_
  rw [hn1]
  refine V.ist1 dX6_comesGround_6 (by decide) rfl ?_
  refine V.aload_n dX6_comesGround_7 rfl ?_
  refine V.getf dX6_comesGround_8 fl_X6_40 (o_ne hm0 (by decide)) rfl ?_
  refine V.iconst (v := nI 2) dX6_comesGround_11 (by decide) ?_
  refine V.ialdN dX6_comesGround_12 (o_ne hnb (by decide)) (by omega) (by decide) ?_
  rw [hn2]
  refine V.ist2 dX6_comesGround_13 (by decide) rfl ?_
  refine V.iconst (v := nI 0) dX6_comesGround_14 (by decide) ?_
  refine V.ist3 dX6_comesGround_15 (by decide) rfl ?_
  have e : gK K g (inJ a b 0) = K := by
    funext i
    unfold gK
    rw [if_neg (fun q => by have := q.2; rw [inJ, decide_eq_false (by omega), Bool.and_false] at this; cases this)]
  have key := s6_comesGround_loop l d h n b0 th po ba en tt hm0 NB hnb K m hm hm10 hHL hcl g a b hg ha hb hn0 84 0 (fun i hi q => by rw [inJ, decide_eq_false (by omega), Bool.and_false] at q; cases q) (by omega)
  rw [e] at key
  exact key
