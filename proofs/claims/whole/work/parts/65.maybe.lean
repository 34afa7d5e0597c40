def oE : Option Nat → Option Nat → Option Nat
  | some s, _ => some s
  | none, b => b
def opC (K : KK) (i : Nat) : Bool := !decide (K i = nI 3)
/-- in how many steps a cell is reached, if in at most t -/
def lv (K : KK) (c0 : Nat) : Nat → Nat → Option Nat
  | 0, i => if i = c0 then some 0 else none
  | t + 1, i => oE (lv K c0 t i) (if (opC K i && eB (fun c => decide (lv K c0 t c = some t) && adjC i c) 84) = true then some (t + 1) else none)
def nbr (K : KK) (c0 t i : Nat) : Bool := eB (fun c => decide (lv K c0 t c = some t) && adjC i c) 84
def nwB (K : KK) (c0 t i : Nat) : Bool := decide (lv K c0 t i = none) && (opC K i && nbr K c0 t i)
def mbC (K : KK) (c0 : Nat) : Nat → Nat
  | 0 => 1
  | t + 1 => mbC K c0 t + cN (nwB K c0 t) 84
def cI : Option Nat → Int32
  | none => 2147483647
  | some s => nI s
theorem lv_le (K : KK) (c0 : Nat) : ∀ t i s, lv K c0 t i = some s → s ≤ t := by
  intro t
  induction t with
  | zero =>
    intro i s h
    rw [lv] at h
    split at h
    · have := Option.some.inj h; omega
    · cases h
  | succ t ih =>
    intro i s h
    rw [lv] at h
    cases q : lv K c0 t i with
    | some s2 =>
      rw [q] at h
      have e := Option.some.inj (show some s2 = some s from h)
      have := ih i s2 q
      omega
    | none =>
      rw [q] at h
      change (if (opC K i && eB (fun c => decide (lv K c0 t c = some t) && adjC i c) 84) = true then some (t + 1) else none) = some s at h
      split at h
      · have := Option.some.inj h; omega
      · cases h
theorem lv_t (K : KK) (c0 t i : Nat) : lv K c0 (t + 1) i = some t ↔ lv K c0 t i = some t := by
  rw [lv]
  cases q : lv K c0 t i with
  | some s => exact Iff.rfl
  | none =>
    show (if (opC K i && eB (fun c => decide (lv K c0 t c = some t) && adjC i c) 84) = true then some (t + 1) else none) = some t ↔ none = some t
    constructor
    · intro h
      split at h
      · have := Option.some.inj h; omega
      · cases h
    · intro h; cases h
theorem cI_eq {o : Option Nat} {t : Nat} (ht : t ≤ 1000) (ho : ∀ s, o = some s → s ≤ 1000) : cI o = nI t ↔ o = some t := by
  cases o with
  | none => exact ⟨fun h => absurd h (by rw [show cI none = nI 2147483647 from rfl]; exact fun y => absurd ((nI_eq (by omega) (by omega)).mp y) (by omega)), fun h => by cases h⟩
  | some s =>
    have := ho s rfl
    exact ⟨fun h => congrArg some ((nI_eq (by omega) (by omega)).mp h), fun h => by rw [Option.some.inj h]; rfl⟩
theorem cN_flip {f g : Nat → Bool} {b : Nat} (hf : f b = false) (hg : g b = true) (h : ∀ j, j ≠ b → g j = f j) : ∀ {m : Nat}, b < m → cN g m = cN f m + 1 := by
  intro m
  induction m with
  | zero => intro hb; omega
  | succ m ih =>
    intro hb
    rw [cN, cN]
    by_cases q : b = m
    · subst q
      rw [hf, hg, cN_congr (f := g) (g := f) (fun i hi => h i (by omega))]
      rfl
    · rw [ih (by omega), h m (by omega)]
      omega
theorem mb_le (K : KK) (c0 : Nat) : ∀ t, mbC K c0 t ≤ 1 + 84 * t := by
  intro t
  induction t with
  | zero => exact Nat.le_refl 1
  | succ t ih => rw [mbC]; have := cN_le (nwB K c0 t) 84; omega
def mayV (K : KK) (x y : Int32) : Int32 := if (wi x (nI 0) (nI 83) && (wi y (nI 0) (nI 20) && !decide (K x.toNatClampNeg = nI 3))) = true then nI (mbC K x.toNatClampNeg y.toNatClampNeg) else -1
set_option maxRecDepth 20000 in
set_option maxHeartbeats 4000000 in
theorem s2_isReached_loop (l : Launch) (d : Nat) (h : MH) (n : Nat) (h59 : h 59 = some (.inr (2, [.ref 60, .ref 61]))) (A : Nat → Int32) (h60 : h 60 = some (.inl (0, 84, .inl A))) (K : KK) (c0 t i : Nat) (hi : i < 84) (hA : ∀ j, j < 84 → (A j = nI t ↔ lv K c0 t j = some t)) : ∀ (r w : Nat), (∀ w1, w1 < w → ∀ j, cbs i w1 = some j → ¬ lv K c0 t j = some t) → w + r = 4 → V l mX2_isReached (d + 1) 2 [some (.ref 59), some (.int (nI i)), some (.int (nI t)), some (.int (nI w)), none] [] h n 0 0 (Pv (bI (nbr K c0 t i)) h n) := by
  intro r
  induction r with
  | zero =>
    intro w hW hw
    refine V.iload_n dX2_isReached_2 rfl ?_
    refine V.iconst (v := nI 4) dX2_isReached_3 (by decide) ?_
    refine V.icmp_geN (tgt := 40) dX2_isReached_4 (by decide) (by omega) (by omega) (fun _ => ?_) (fun q => absurd q (by omega))
    refine V.iconst (v := nI 0) dX2_isReached_40 (by decide) ?_
    have hno : nbr K c0 t i = false := by
      cases q : nbr K c0 t i with
      | false => rfl
      | true =>
        obtain ⟨c, hc, y⟩ := (eB_iff _ _).mp q
        rw [Bool.and_eq_true] at y
        obtain ⟨w1, hw1, e⟩ := (adj_iff i c).mp y.2
        exact absurd (of_decide_eq_true y.1) (hW w1 (by omega) c e)
    exact V.iretZ (by exact dX2_isReached_41) rfl (by rw [hno]; rfl) rfl
  | succ r ih =>
    intro w hW hw
    refine V.iload_n dX2_isReached_2 rfl ?_
    refine V.iconst (v := nI 4) dX2_isReached_3 (by decide) ?_
    refine V.icmp_geN (tgt := 40) dX2_isReached_4 (by decide) (by omega) (by omega) (fun q => absurd q (by omega)) (fun _ => ?_)
    refine V.iload_n dX2_isReached_7 rfl ?_
    refine V.iload_n dX2_isReached_8 rfl ?_
    refine V.callSv [_, _] dX2_isReached_9 lk_X2_45 rfl (Nat.le_of_ble_eq_true rfl) (Nat.le_of_ble_eq_true rfl) (s2_beside _ _ _ _ _ _ hi (by omega)) ?_
    refine V.ist4 dX2_isReached_12 (by decide) rfl ?_
    refine V.iload dX2_isReached_14 rfl ?_
    refine V.bipush (v := -4) dX2_isReached_16 (by decide) ?_
    cases hb : cbs i w with
    | none =>
      refine V.icmp_eq (tgt := 34) dX2_isReached_18 (by decide) (fun _ => ?_) (fun q => absurd rfl q)
      refine V.inN3 dX2_isReached_34 (by decide) rfl ?_
      refine V.goto (tgt := 2) dX2_isReached_37 (by decide) ?_
      refine V.drop 4 (ih (w + 1) (fun w1 hw1 j e => ?_) (by omega))
      by_cases y : w1 = w
      · subst y
        rw [hb] at e; cases e
      · exact hW w1 (by omega) j e
    | some j0 =>
      have hj0 := cbs_lt i (by omega) w (by omega) j0 hb
      refine V.icmp_eq (tgt := 34) dX2_isReached_18 (by decide) (fun q => absurd q.symm (neg4_ne (by omega))) (fun _ => ?_)
      refine V.aload_n dX2_isReached_21 rfl ?_
      refine V.getf dX2_isReached_22 fl_X2_9 h59 rfl ?_
      refine V.iload dX2_isReached_25 rfl ?_
      refine V.ialdN dX2_isReached_27 h60 hj0 (by decide) ?_
      refine V.iload_n dX2_isReached_28 rfl ?_
      refine V.icmp_ne (tgt := 34) dX2_isReached_29 (by decide) (fun c29 => ?_) (fun c29 => ?_)
      · refine V.inN3 dX2_isReached_34 (by decide) rfl ?_
        refine V.goto (tgt := 2) dX2_isReached_37 (by decide) ?_
        refine V.drop 4 (ih (w + 1) (fun w1 hw1 j e => ?_) (by omega))
        by_cases y : w1 = w
        · subst y
          rw [hb] at e; rw [← Option.some.inj e]; exact fun y => c29 ((hA j0 hj0).mpr y)
        · exact hW w1 (by omega) j e
      · have hyes : nbr K c0 t i = true := (eB_iff _ _).mpr ⟨j0, hj0, by rw [decide_eq_true ((hA j0 hj0).mp c29), (adj_iff i j0).mpr ⟨w, by omega, hb⟩]; rfl⟩
        refine V.iconst (v := nI 1) dX2_isReached_32 (by decide) ?_
        exact V.iretZ (by exact dX2_isReached_33) rfl (by rw [hyes]; rfl) rfl
set_option maxRecDepth 20000 in
set_option maxHeartbeats 4000000 in
theorem s2_isReached (l : Launch) (d : Nat) (h : MH) (n : Nat) (h59 : h 59 = some (.inr (2, [.ref 60, .ref 61]))) (A : Nat → Int32) (h60 : h 60 = some (.inl (0, 84, .inl A))) (K : KK) (c0 t i : Nat) (hi : i < 84) (hA : ∀ j, j < 84 → (A j = nI t ↔ lv K c0 t j = some t)) : Sp l mX2_isReached (d + 1) [.ref 59, .int (nI i), .int (nI t)] h n 0 0 (Pv (bI (nbr K c0 t i)) h n) := by
  show V _ _ _ _ [some (.ref 59), some (.int (nI i)), some (.int (nI t)), none, none] _ _ _ _ _ _
  refine V.iconst (v := nI 0) dX2_isReached_0 (by decide) ?_
  refine V.ist3 dX2_isReached_1 (by decide) rfl ?_
  exact s2_isReached_loop l d h n h59 A h60 K c0 t i hi hA 4 0 (fun w1 hw1 => absurd hw1 (by omega)) (by omega)
set_option maxRecDepth 20000 in
set_option maxHeartbeats 4000000 in
theorem s2_cells_in (l : Launch) (d : Nat) (h : MH) (n w : Nat) (K : KK) (cl P : Nat → Int32) (pn : Nat) (hw : WoodAt h w K cl P pn) (hwq : w + 18 ≤ 59) (h59 : h 59 = some (.inr (2, [.ref 60, .ref 61]))) (c0 N t : Nat) (hN : N ≤ 20) (ht : t < N) {Q : Option Value → MH → Nat → Prop} (kk : ∀ A : Nat → Int32, (∀ j, j < 84 → A j = cI (lv K c0 (t + 1) j)) → V l mX2_cellsWithin (d + 2) 107 [some (.ref 59), some (.ref w), some (.int (nI c0)), some (.int (nI N)), some (.int (nI (mbC K c0 t + cN (nwB K c0 t) 84))), some (.int (nI (t + 1))), none] [] (hset h 60 (.inl (0, 84, .inl A))) n 0 0 Q) : ∀ (r i : Nat) (A : Nat → Int32), (∀ j, j < 84 → A j = cI (if j < i then lv K c0 (t + 1) j else lv K c0 t j)) → i + r = 84 → V l mX2_cellsWithin (d + 2) 47 [some (.ref 59), some (.ref w), some (.int (nI c0)), some (.int (nI N)), some (.int (nI (mbC K c0 t + cN (nwB K c0 t) i))), some (.int (nI (t + 1))), some (.int (nI i))] [] (hset h 60 (.inl (0, 84, .inl A))) n 0 0 Q := by
  obtain ⟨hw0, ⟨gr, hgr, egr⟩, ⟨ru, hru, eru⟩, ⟨pq, hpf, epf⟩, hpl, ⟨fl, hfl, efl⟩, ⟨ca, hca, eca⟩, ⟨wa, hwa⟩, hpp, hhd⟩ := id hw
  intro r
  induction r with
  | zero =>
    intro i A hA hi
    refine V.iload dX2_cellsWithin_47 rfl ?_
    refine V.bipush (v := nI 84) dX2_cellsWithin_49 (by decide) ?_
    refine V.icmp_geN (tgt := 107) dX2_cellsWithin_51 (by decide) (by omega) (by omega) (fun _ => ?_) (fun q => absurd q (by omega))
    have hi84 : i = 84 := by omega
    subst hi84
    exact V.drop 6 (kk A (fun j hj => by rw [hA j hj, if_pos hj]))
  | succ r ih =>
    intro i A hA hi
    refine V.iload dX2_cellsWithin_47 rfl ?_
    refine V.bipush (v := nI 84) dX2_cellsWithin_49 (by decide) ?_
    refine V.icmp_geN (tgt := 107) dX2_cellsWithin_51 (by decide) (by omega) (by omega) (fun q => absurd q (by omega)) (fun _ => ?_)
    have hAi : A i = cI (lv K c0 t i) := by rw [hA i (by omega), if_neg (by omega)]
    refine V.aload_n dX2_cellsWithin_54 rfl ?_
    refine V.getf dX2_cellsWithin_55 fl_X2_9 (o_ne h59 (by decide)) rfl ?_
    refine V.iload dX2_cellsWithin_58 rfl ?_
    refine V.ialdN dX2_cellsWithin_60 (hset_self _ _ _) (by omega) (by decide) ?_
    rw [hAi]
    refine V.ldc dX2_cellsWithin_61 cn_X2_40 ?_
    cases hl : lv K c0 t i with
    | some s =>
      have hs := lv_le K c0 t i s hl
      refine V.icmp_ne (tgt := 101) dX2_cellsWithin_63 (by decide) (fun _ => ?_) (fun q => absurd (show nI s = nI 2147483647 from q) (fun y => absurd ((nI_eq (by omega) (by omega)).mp y) (by omega)))
      refine V.inN6 dX2_cellsWithin_101 (by decide) rfl ?_
      refine V.goto (tgt := 47) dX2_cellsWithin_104 (by decide) ?_
      have hnw : nwB K c0 t i = false := by rw [nwB, hl]; rfl
      have hlv : lv K c0 (t + 1) i = lv K c0 t i := by rw [lv, hl]; rfl
      exact V.ls (by simp only [cN, hnw, if_false, Nat.add_zero, Bool.false_eq_true]) (ih (i + 1) A (fun j hj => by
        rw [hA j hj]
        by_cases y : j = i
        · subst y; rw [if_neg (by omega), if_pos (by omega), hlv]
        · have e : (j < i + 1) ↔ (j < i) := by omega
          simp only [e]) (by omega))
    | none =>
      refine V.icmp_ne (tgt := 101) dX2_cellsWithin_63 (by decide) (fun q => absurd rfl q) (fun _ => ?_)
      refine V.aload_n dX2_cellsWithin_66 rfl ?_
      refine V.iload dX2_cellsWithin_67 rfl ?_
      refine V.callVv [_] dX2_cellsWithin_69 lk_X2_19 rfl (Nat.le_of_ble_eq_true rfl) (Nat.le_of_ble_eq_true rfl) (o_ne hw0 (by omega)) rfl (s4_groundOf _ _ _ _ _ _ _ _ _ (hw.far (fun q _ _ => by rw [hset_ne _ _ (by omega)])) _ (by omega)) ?_
      refine V.iconst (v := nI 3) dX2_cellsWithin_72 (by decide) ?_
      refine V.icmp_eq (tgt := 101) dX2_cellsWithin_73 (by decide) (fun c74 => ?_) (fun c74 => ?_)
      · refine V.inN6 dX2_cellsWithin_101 (by decide) rfl ?_
        refine V.goto (tgt := 47) dX2_cellsWithin_104 (by decide) ?_
        have hnw : nwB K c0 t i = false := by rw [nwB, opC, decide_eq_true c74]; simp
        have hlv : lv K c0 (t + 1) i = lv K c0 t i := by rw [lv, hl, opC, decide_eq_true c74]; rfl
        exact V.ls (by simp only [cN, hnw, if_false, Nat.add_zero, Bool.false_eq_true]) (ih (i + 1) A (fun j hj => by
          rw [hA j hj]
          by_cases y : j = i
          · subst y; rw [if_neg (by omega), if_pos (by omega), hlv]
          · have e : (j < i + 1) ↔ (j < i) := by omega
            simp only [e]) (by omega))
      · refine V.aload_n dX2_cellsWithin_76 rfl ?_
        refine V.iload dX2_cellsWithin_77 rfl ?_
        refine V.iload dX2_cellsWithin_79 rfl ?_
        refine V.iconst (v := nI 1) dX2_cellsWithin_81 (by decide) ?_
        refine V.isubN dX2_cellsWithin_82 (by omega) ?_
        rw [show t + 1 - 1 = t by omega]
        refine V.callVv [_, _] dX2_cellsWithin_83 lk_X2_54 rfl (Nat.le_of_ble_eq_true rfl) (Nat.le_of_ble_eq_true rfl) (o_ne h59 (by decide)) rfl (s2_isReached _ _ _ _ (o_ne h59 (by decide)) A (hset_self _ _ _) K c0 t i (by omega) (fun j hj => ?_)) ?_
        · rw [hA j hj]
          by_cases y : j < i
          · rw [if_pos y, cI_eq (by omega) (fun s hs => by have := lv_le K c0 _ _ _ hs; omega)]
            exact lv_t K c0 t j
          · rw [if_neg y, cI_eq (by omega) (fun s hs => by have := lv_le K c0 _ _ _ hs; omega)]
        refine V.if_eqB (tgt := 101) dX2_cellsWithin_86 (by decide) (fun c87 => ?_) (fun c87 => ?_)
        · refine V.inN6 dX2_cellsWithin_101 (by decide) rfl ?_
          refine V.goto (tgt := 47) dX2_cellsWithin_104 (by decide) ?_
          have hnw : nwB K c0 t i = false := by rw [nwB, c87]; simp
          have hlv : lv K c0 (t + 1) i = lv K c0 t i := by rw [lv, hl]; show (if (opC K i && nbr K c0 t i) = true then some (t + 1) else none) = none; rw [c87]; simp
          exact V.ls (by simp only [cN, hnw, if_false, Nat.add_zero, Bool.false_eq_true]) (ih (i + 1) A (fun j hj => by
            rw [hA j hj]
            by_cases y : j = i
            · subst y; rw [if_neg (by omega), if_pos (by omega), hlv]
            · have e : (j < i + 1) ↔ (j < i) := by omega
              simp only [e]) (by omega))
        · have hnw : nwB K c0 t i = true := by rw [nwB, hl, c87, opC, decide_eq_false c74]; rfl
          have hlv : lv K c0 (t + 1) i = some (t + 1) := by
            rw [lv, hl]
            show (if (opC K i && nbr K c0 t i) = true then some (t + 1) else none) = some (t + 1)
            rw [c87, opC, decide_eq_false c74]; rfl
          refine V.aload_n dX2_cellsWithin_89 rfl ?_
          refine V.getf dX2_cellsWithin_90 fl_X2_9 (o_ne h59 (by decide)) rfl ?_
          refine V.iload dX2_cellsWithin_93 rfl ?_
          refine V.iload dX2_cellsWithin_95 rfl ?_
          refine V.iastN dX2_cellsWithin_97 (hset_self _ _ _) (by omega) (by decide) ?_
          rw [hset_hset]
          refine V.inN4 dX2_cellsWithin_98 (by decide) rfl ?_
          refine V.inN6 dX2_cellsWithin_101 (by decide) rfl ?_
          refine V.goto (tgt := 47) dX2_cellsWithin_104 (by decide) ?_
          exact V.ls (by simp only [cN, hnw, if_true]; rfl) (ih (i + 1) (upd A i (nI (t + 1))) (fun j hj => by
            by_cases y : j = i
            · subst y; rw [pk_us, if_pos (by omega), hlv]; rfl
            · have e : (j < i + 1) ↔ (j < i) := by omega
              rw [pk_un y, hA j hj]
              simp only [e]) (by omega))
/-- the scout's row of costs alone has changed -/
def Qs (v : Int32) (h : MH) (n : Nat) : Option Value → MH → Nat → Prop := fun r h1 n1 => r = some (.int v) ∧ n1 = n ∧ ∃ X : Nat → Int32, h1 = hset h 60 (.inl (0, 84, .inl X))
set_option maxRecDepth 20000 in
set_option maxHeartbeats 4000000 in
theorem s2_cells_out (l : Launch) (d : Nat) (h : MH) (n w : Nat) (K : KK) (cl P : Nat → Int32) (pn : Nat) (hw : WoodAt h w K cl P pn) (hwq : w + 18 ≤ 59) (h59 : h 59 = some (.inr (2, [.ref 60, .ref 61]))) (c0 N : Nat) (hN : N ≤ 20) : ∀ (r t : Nat) (A : Nat → Int32), (∀ j, j < 84 → A j = cI (lv K c0 t j)) → t + r = N → V l mX2_cellsWithin (d + 2) 38 [some (.ref 59), some (.ref w), some (.int (nI c0)), some (.int (nI N)), some (.int (nI (mbC K c0 t))), some (.int (nI (t + 1))), none] [] (hset h 60 (.inl (0, 84, .inl A))) n 0 0 (Qs (nI (mbC K c0 N)) h n) := by
  intro r
  induction r with
  | zero =>
    intro t A hA ht
    refine V.iload dX2_cellsWithin_38 rfl ?_
    refine V.iload_n dX2_cellsWithin_40 rfl ?_
    refine V.icmp_gtN (tgt := 113) dX2_cellsWithin_41 (by decide) (by omega) (by omega) (fun _ => ?_) (fun q => absurd q (by omega))
    refine V.iload dX2_cellsWithin_113 rfl ?_
    have htN : t = N := by omega
    subst htN
    exact V.iret (by exact dX2_cellsWithin_115) rfl rfl ⟨rfl, rfl, A, rfl⟩
  | succ r ih =>
    intro t A hA ht
    refine V.iload dX2_cellsWithin_38 rfl ?_
    refine V.iload_n dX2_cellsWithin_40 rfl ?_
    refine V.icmp_gtN (tgt := 113) dX2_cellsWithin_41 (by decide) (by omega) (by omega) (fun q => absurd q (by omega)) (fun _ => ?_)
    refine V.iconst (v := nI 0) dX2_cellsWithin_44 (by decide) ?_
    refine V.ist6 dX2_cellsWithin_45 (by decide) rfl ?_
    refine s2_cells_in l d h n w K cl P pn hw hwq h59 c0 N t hN (by omega) (fun A1 hA1 => ?_) 84 0 A (fun j hj => by rw [if_neg (by omega)]; exact hA j hj) (by omega)
    refine V.inN5 dX2_cellsWithin_107 (by decide) rfl ?_
    refine V.goto (tgt := 38) dX2_cellsWithin_110 (by decide) ?_
    exact ih (t + 1) A1 hA1 (by omega)
set_option maxRecDepth 20000 in
set_option maxHeartbeats 4000000 in
theorem s2_cells_fill (l : Launch) (d : Nat) (h : MH) (n w : Nat) (h59 : h 59 = some (.inr (2, [.ref 60, .ref 61]))) (c0 N : Nat) {Q : Option Value → MH → Nat → Prop} (kk : ∀ A : Nat → Int32, (∀ j, j < 84 → A j = 2147483647) → V l mX2_cellsWithin d 25 [some (.ref 59), some (.ref w), some (.int (nI c0)), some (.int (nI N)), none, none, none] [] (hset h 60 (.inl (0, 84, .inl A))) n 0 0 Q) : ∀ (r i : Nat) (A : Nat → Int32), (∀ j, j < i → A j = 2147483647) → i + r = 84 → V l mX2_cellsWithin d 3 [some (.ref 59), some (.ref w), some (.int (nI c0)), some (.int (nI N)), some (.int (nI i)), none, none] [] (hset h 60 (.inl (0, 84, .inl A))) n 0 0 Q := by
  intro r
  induction r with
  | zero =>
    intro i A hA hi
    refine V.iload dX2_cellsWithin_3 rfl ?_
    refine V.bipush (v := nI 84) dX2_cellsWithin_5 (by decide) ?_
    refine V.icmp_geN (tgt := 25) dX2_cellsWithin_7 (by decide) (by omega) (by omega) (fun _ => ?_) (fun q => absurd q (by omega))
    exact V.drop 4 (kk A (fun j hj => hA j (by omega)))
  | succ r ih =>
    intro i A hA hi
    refine V.iload dX2_cellsWithin_3 rfl ?_
    refine V.bipush (v := nI 84) dX2_cellsWithin_5 (by decide) ?_
    refine V.icmp_geN (tgt := 25) dX2_cellsWithin_7 (by decide) (by omega) (by omega) (fun q => absurd q (by omega)) (fun _ => ?_)
    refine V.aload_n dX2_cellsWithin_10 rfl ?_
    refine V.getf dX2_cellsWithin_11 fl_X2_9 (o_ne h59 (by decide)) rfl ?_
    refine V.iload dX2_cellsWithin_14 rfl ?_
    refine V.ldc dX2_cellsWithin_16 cn_X2_40 ?_
    refine V.iastN dX2_cellsWithin_18 (hset_self _ _ _) (by omega) (by decide) ?_
    rw [hset_hset]
    refine V.inN4 dX2_cellsWithin_19 (by decide) rfl ?_
    refine V.goto (tgt := 3) dX2_cellsWithin_22 (by decide) ?_
    refine ih (i + 1) _ (fun j hj => ?_) (by omega)
    by_cases y : j = i
    · subst y; rw [pk_us]
    · rw [pk_un y]; exact hA j (by omega)
set_option maxRecDepth 20000 in
set_option maxHeartbeats 4000000 in
theorem s2_cells (l : Launch) (d : Nat) (h : MH) (n w : Nat) (K : KK) (cl P : Nat → Int32) (pn : Nat) (hw : WoodAt h w K cl P pn) (hwq : w + 18 ≤ 59) (h59 : h 59 = some (.inr (2, [.ref 60, .ref 61]))) (co : Nat → Int32) (hco : h 60 = some (ia 84 co)) (c0 N : Nat) (hc0 : c0 < 84) (hN : N ≤ 20) : Sp l mX2_cellsWithin (d + 2) [.ref 59, .ref w, .int (nI c0), .int (nI N)] h n 0 0 (Qs (nI (mbC K c0 N)) h n) := by
  show V _ _ _ _ [some (.ref 59), some (.ref w), some (.int (nI c0)), some (.int (nI N)), none, none, none] _ _ _ _ _ _
  refine V.iconst (v := nI 0) dX2_cellsWithin_0 (by decide) ?_
  refine V.ist4 dX2_cellsWithin_1 (by decide) rfl ?_
  have hco2 : h 60 = some (.inl (0, 84, .inl co)) := hco
  refine V.hp (hset_id hco2).symm (s2_cells_fill l (d + 2) h n w h59 c0 N (fun A hA => ?_) 84 0 co (fun j hj => absurd hj (by omega)) (by omega))
  refine V.aload_n dX2_cellsWithin_25 rfl ?_
  refine V.getf dX2_cellsWithin_26 fl_X2_9 (o_ne h59 (by decide)) rfl ?_
  refine V.iload_n dX2_cellsWithin_29 rfl ?_
  refine V.iconst (v := nI 0) dX2_cellsWithin_30 (by decide) ?_
  refine V.iastN dX2_cellsWithin_31 (hset_self _ _ _) (by omega) (by decide) ?_
  rw [hset_hset]
  refine V.iconst (v := nI 1) dX2_cellsWithin_32 (by decide) ?_
  refine V.ist4 dX2_cellsWithin_33 (by decide) rfl ?_
  refine V.iconst (v := nI 1) dX2_cellsWithin_35 (by decide) ?_
  refine V.ist5 dX2_cellsWithin_36 (by decide) rfl ?_
  refine s2_cells_out l d h n w K cl P pn hw hwq h59 c0 N hN N 0 _ (fun j hj => ?_) (by omega)
  rw [lv]
  by_cases y : j = c0
  · subst y; rw [pk_us, if_pos rfl]; rfl
  · rw [pk_un y, if_neg y]; exact hA j hj
set_option maxRecDepth 20000 in
set_option maxHeartbeats 4000000 in
theorem x_mayBe (l : Launch) (d : Nat) (h : MH) (n : Nat) (K : KK) (b : Bool) (KI : KK) (S : SS) (m : Nat) (hc : ClsAt h K b KI S) (hT : TI K m) (x y : Int32) : Sp l mX5_mayBe (d + 3) [.ref 0, .int x, .int y] h n 0 0 (Qx (mayV K x y) K b KI S h n) := by
  have hD := hT.1
  have hm := hD.1.1
  have hm10 := hD.1.2.1
  obtain ⟨ht0, ⟨sq, hsq, esq⟩, ⟨cl, P, pn, hw, hPR⟩, ⟨Km, clm, Pm, pm, hwm⟩, ⟨KJ, clJ, PJ, pJ, hwJ, hJ⟩, ⟨rb, rx, ry, hrd⟩, hsc, ⟨co, hco⟩, ⟨se, hse⟩, hsh⟩ := id hc
  obtain ⟨hw0, ⟨gr, hgr, egr⟩, ⟨ru, hru, eru⟩, ⟨pq, hpf, epf⟩, hpl, ⟨fl, hfl, efl⟩, ⟨ca, hca, eca⟩, ⟨wa, hwa⟩, hpp, hhd⟩ := id hw
  show V _ _ _ _ [some (.ref 0), some (.int x), some (.int y)] _ _ _ _ _ _
  refine V.iload_n dX5_mayBe_0 rfl ?_
  refine V.callSv [_] dX5_mayBe_1 lk_X5_63 rfl (Nat.le_of_ble_eq_true rfl) (Nat.le_of_ble_eq_true rfl) (s5_isCell _ _ _ _ _) ?_
  refine V.if_eqB (tgt := 30) dX5_mayBe_4 (by decide) (fun c4 => ?_) (fun c4 => ?_)
  · refine V.iconst (v := -1) dX5_mayBe_30 (by decide) ?_
    exact V.iret (by exact dX5_mayBe_31) rfl rfl ⟨by first | (simp only [mayV, c4, not_true_eq_false, not_false_eq_true, if_true, if_false, decide_true, decide_false, Bool.and_true, Bool.and_false, Bool.true_and, Bool.false_and, Bool.or_true, Bool.or_false, Bool.true_or, Bool.false_or, Bool.not_true, Bool.not_false, and_true, and_false, true_and, false_and, or_true, or_false, true_or, false_or, bIt, bIf, Bool.false_eq_true, reduceCtorEq]; done) | (simp only [mayV, clampI (show c0 < 2147483648 by omega), c4, not_true_eq_false, not_false_eq_true, if_true, if_false, decide_true, decide_false, Bool.and_true, Bool.and_false, Bool.true_and, Bool.false_and, Bool.or_true, Bool.or_false, Bool.true_or, Bool.false_or, Bool.not_true, Bool.not_false, and_true, and_false, true_and, false_and, or_true, or_false, true_or, false_or, bIt, bIf, Bool.false_eq_true, reduceCtorEq]; done), rfl, hc, fun _ _ => rfl⟩
  · refine V.iload_n dX5_mayBe_7 rfl ?_
    refine V.iconst (v := nI 0) dX5_mayBe_8 (by decide) ?_
    refine V.bipush (v := nI 20) dX5_mayBe_9 (by decide) ?_
    refine V.callSv [_, _, _] dX5_mayBe_11 lk_X5_71 rfl (Nat.le_of_ble_eq_true rfl) (Nat.le_of_ble_eq_true rfl) (s5_within _ _ _ _ _ _ _) ?_
    refine V.if_eqB (tgt := 30) dX5_mayBe_14 (by decide) (fun c14 => ?_) (fun c14 => ?_)
    · refine V.iconst (v := -1) dX5_mayBe_30 (by decide) ?_
      exact V.iret (by exact dX5_mayBe_31) rfl rfl ⟨by first | (simp only [mayV, c4, c14, not_true_eq_false, not_false_eq_true, if_true, if_false, decide_true, decide_false, Bool.and_true, Bool.and_false, Bool.true_and, Bool.false_and, Bool.or_true, Bool.or_false, Bool.true_or, Bool.false_or, Bool.not_true, Bool.not_false, and_true, and_false, true_and, false_and, or_true, or_false, true_or, false_or, bIt, bIf, Bool.false_eq_true, reduceCtorEq]; done) | (simp only [mayV, clampI (show c0 < 2147483648 by omega), c4, c14, not_true_eq_false, not_false_eq_true, if_true, if_false, decide_true, decide_false, Bool.and_true, Bool.and_false, Bool.true_and, Bool.false_and, Bool.or_true, Bool.or_false, Bool.true_or, Bool.false_or, Bool.not_true, Bool.not_false, and_true, and_false, true_and, false_and, or_true, or_false, true_or, false_or, bIt, bIf, Bool.false_eq_true, reduceCtorEq]; done), rfl, hc, fun _ _ => rfl⟩
    · refine V.aload_n dX5_mayBe_17 rfl ?_
      obtain ⟨c0, hc0, rfl⟩ := wi_ex (by decide) c4
      refine V.getf dX5_mayBe_18 fl_X5_18 ht0 rfl ?_
      refine V.getf dX5_mayBe_21 fl_X5_67 hw0 rfl ?_
      refine V.iload_n dX5_mayBe_24 rfl ?_
      refine V.ialdN dX5_mayBe_25 hgr (by omega) (by decide) ?_
      rw [egr _ (by omega)]
      refine V.iconst (v := nI 3) dX5_mayBe_26 (by decide) ?_
      refine V.icmp_ne (tgt := 32) dX5_mayBe_27 (by decide) (fun c27 => ?_) (fun c27 => ?_)
      · obtain ⟨N, hN, rfl⟩ := wi_ex (by decide) c14
        refine V.aload_n dX5_mayBe_32 rfl ?_
        refine V.getf dX5_mayBe_33 fl_X5_38 ht0 rfl ?_
        refine V.aload_n dX5_mayBe_36 rfl ?_
        refine V.getf dX5_mayBe_37 fl_X5_18 ht0 rfl ?_
        refine V.iload_n dX5_mayBe_40 rfl ?_
        refine V.iload_n dX5_mayBe_41 rfl ?_
        refine V.callV (c := 0) (z := 0) [_, _, _] dX5_mayBe_42 lk_X5_240 rfl (Nat.le_of_ble_eq_true rfl) (Nat.le_of_ble_eq_true rfl) hsc rfl (s2_cells _ _ _ _ _ _ _ _ _ hw (by omega) hsc co hco c0 N (by omega) hN) (fun v h1 n1 q => ?_)
        obtain ⟨rfl, rfl, X, rfl⟩ := q
        exact V.iret (by exact dX5_mayBe_45) rfl rfl ⟨by simp only [mayV, clampI (show c0 < 2147483648 by omega), clampI (show N < 2147483648 by omega), c4, c14, c27, not_true_eq_false, not_false_eq_true, if_true, if_false, decide_true, decide_false, Bool.and_true, Bool.and_false, Bool.true_and, Bool.false_and, Bool.or_true, Bool.or_false, Bool.true_or, Bool.false_or, Bool.not_true, Bool.not_false, and_true, and_false, true_and, false_and, or_true, or_false, true_or, false_or, bIt, bIf, Bool.false_eq_true, reduceCtorEq], rfl, hc.sco (fun q q1 q2 => hset_ne _ _ q1) (hset_self _ _ _) (o_ne hse (by decide)), fun q hq => hset_ne _ _ (by omega)⟩
      · refine V.iconst (v := -1) dX5_mayBe_30 (by decide) ?_
        exact V.iret (by exact dX5_mayBe_31) rfl rfl ⟨by first | (simp only [mayV, c4, c14, eq_true c27, not_true_eq_false, not_false_eq_true, if_true, if_false, decide_true, decide_false, Bool.and_true, Bool.and_false, Bool.true_and, Bool.false_and, Bool.or_true, Bool.or_false, Bool.true_or, Bool.false_or, Bool.not_true, Bool.not_false, and_true, and_false, true_and, false_and, or_true, or_false, true_or, false_or, bIt, bIf, Bool.false_eq_true, reduceCtorEq]; done) | (simp only [mayV, clampI (show c0 < 2147483648 by omega), c4, c14, eq_true c27, not_true_eq_false, not_false_eq_true, if_true, if_false, decide_true, decide_false, Bool.and_true, Bool.and_false, Bool.true_and, Bool.false_and, Bool.or_true, Bool.or_false, Bool.true_or, Bool.false_or, Bool.not_true, Bool.not_false, and_true, and_false, true_and, false_and, or_true, or_false, true_or, false_or, bIt, bIf, Bool.false_eq_true, reduceCtorEq]; done), rfl, hc, fun _ _ => rfl⟩
