theorem V.drop {l : Launch} {M : MT} {d pc : Nat} {ls : List (Option Value)} {st : List Value} {h : MH} {n c z : Nat} {Q : Option Value → MH → Nat → Prop} (i : Nat) (k : V l M d pc (ls.set i none) st h n c z Q) : V l M d pc ls st h n c z Q := by
  intro p e R s m args below meth cd D T ad adV B lsA H locs cells slots cm sm Qs C hW hS hc hz hcm hzm hl hE
  refine k p e R s m args below meth cd D T ad adV B lsA H locs cells slots cm sm Qs C hW hS hc hz hcm hzm ⟨hl.1, hl.2.1, fun q hq => hl.2.2 q ?_⟩ hE
  obtain ⟨j, v, h1, h2⟩ := (lvl_mem ad q _ 0).mp hq
  refine (lvl_mem ad q ls 0).mpr ⟨j, v, ?_, h2⟩
  rw [List.getElem?_set] at h1
  by_cases e : i = j
  · rw [if_pos e] at h1
    split at h1 <;> simp at h1
  · rw [if_neg e] at h1
    exact h1
/-- a cell -/
def cellv (c : Int32) : Prop := ∃ j : Nat, j < 84 ∧ c = nI j
theorem s6_seesCellI (l : Launch) (d : Nat) (h : MH) (n a : Nat) (K : KK) (ha : h a = some (kc K)) (p : Nat) (c : Int32) (hp : p < 10) (hc : cellv c) : Sp l mX6_seesCell (d + 2) [.ref a, .int (nI p), .int c] h n 0 0 (Pv (bI (seB K p c)) h n) := by
  obtain ⟨j, hj, rfl⟩ := hc
  exact s6_seesCell l d h n a K ha p j hp hj
theorem s6_getI (l : Launch) (d : Nat) (h : MH) (n a : Nat) (K : KK) (ha : h a = some (kc K)) (x : Int32) (w : Nat) (hx : ∃ j : Nat, j < 10 ∧ x = nI j) (hw : w < 7) : Sp l mX6_get d [.ref a, .int x, .int (nI w)] h n 0 0 (Pv (gP K x.toNatClampNeg w) h n) := by
  obtain ⟨j, hj, rfl⟩ := hx
  rw [clampI (by omega)]
  exact s6_get l d h n a K ha j w hj hw
theorem frB_z {K : KK} {p : Nat} (h : frB K p = true) : gP K p 5 = nI 0 := of_decide_eq_true h
def mdC (K : KK) (p : Nat) (c f : Int32) (q : Nat) : Bool := !decide (gP K q 0 = gP K p 0) && (frB K q && (!decide (hfc (gP K q 4) = gP K p 0) && decide (nr (gP K q 4) c ≤ f)))
def mdL (K : KK) (p : Nat) (c f : Int32) : Nat → Bool
  | 0 => false
  | q + 1 => mdL K p c f q || mdC K p c f q
/-- somebody minds -/
def mind (K : KK) (m p : Nat) (c f : Int32) : Bool := mdL K p c f m
theorem mdL_up {K : KK} {p : Nat} {c f : Int32} : ∀ {m q : Nat}, q ≤ m → mdL K p c f q = true → mdL K p c f m = true := by
  intro m
  induction m with
  | zero => intro q hq h; rw [show q = 0 by omega] at h; exact h
  | succ m ih =>
    intro q hq h
    by_cases e : q = m + 1
    · rw [e] at h; exact h
    · rw [mdL, ih (show q ≤ m by omega) h]; rfl
set_option maxRecDepth 20000 in
set_option maxHeartbeats 4000000 in
theorem s6_isMinded_loop (l : Launch) (d : Nat) (h : MH) (n a : Nat) (K : KK) (ha : h a = some (kc K)) (p : Nat) (c f : Int32) (hp : p < 10) (m : Nat) (hm : K 90 = nI m) (hm10 : m ≤ 10) : ∀ (r q : Nat), q + r = m → mdL K p c f q = false → V l mX6_isMinded (d + 2) 11 [some (.ref a), some (.int (nI p)), some (.int c), some (.int f), some (.int (gP K p 0)), some (.int (nI q))] [] h n 0 0 (Pv (bI (mind K m p c f)) h n) := by
  intro r
  induction r with
  | zero =>
    intro q hq hf
    refine V.iload dX6_isMinded_11 rfl ?_
    refine V.aload_n dX6_isMinded_13 rfl ?_
    refine V.bipush (v := nI 90) dX6_isMinded_14 (by decide) ?_
    refine V.ialdN dX6_isMinded_16 (by assumption) (by omega) (by decide) ?_
    rw [hm]
    refine V.icmp_geN (tgt := 79) dX6_isMinded_17 (by decide) (by omega) (by omega) (fun _ => ?_) (fun q => absurd q (by omega))
    refine V.iconst (v := nI 0) dX6_isMinded_79 (by decide) ?_
    exact V.iretZ (by exact dX6_isMinded_80) rfl (by rw [mind, show m = q by omega, hf, bIf]) rfl
  | succ r ih =>
    intro q hq hf
    refine V.iload dX6_isMinded_11 rfl ?_
    refine V.aload_n dX6_isMinded_13 rfl ?_
    refine V.bipush (v := nI 90) dX6_isMinded_14 (by decide) ?_
    refine V.ialdN dX6_isMinded_16 (by assumption) (by omega) (by decide) ?_
    rw [hm]
    refine V.icmp_geN (tgt := 79) dX6_isMinded_17 (by decide) (by omega) (by omega) (fun q => absurd q (by omega)) (fun _ => ?_)
    refine V.aload_n dX6_isMinded_20 rfl ?_
    refine V.iload dX6_isMinded_21 rfl ?_
    refine V.iconst (v := nI 0) dX6_isMinded_23 (by decide) ?_
    refine V.callSv [_, _, _] dX6_isMinded_24 lk_X6_82 rfl (Nat.le_of_ble_eq_true rfl) (Nat.le_of_ble_eq_true rfl) (s6_get _ _ _ _ _ _ (by assumption) _ _ (by omega) (by omega)) ?_
    refine V.iload dX6_isMinded_27 rfl ?_
    refine V.icmp_eq (tgt := 73) dX6_isMinded_29 (by decide) (fun c29 => ?_) (fun c29 => ?_)
    · refine V.inN5 dX6_isMinded_73 (by decide) rfl ?_
      refine V.goto (tgt := 11) dX6_isMinded_76 (by decide) ?_
      exact ih (q + 1) (by omega) (by (try simp only [← Int32.not_le, Classical.not_not] at *); simp only [mdL, mdC, hf, eq_true c29, not_true_eq_false, not_false_eq_true, if_true, if_false, decide_true, decide_false, Bool.and_true, Bool.and_false, Bool.true_and, Bool.false_and, Bool.or_true, Bool.or_false, Bool.true_or, Bool.false_or, Bool.not_true, Bool.not_false, and_true, and_false, true_and, false_and, or_true, or_false, true_or, false_or, bIt, bIf, Bool.false_eq_true, reduceCtorEq])
    · refine V.aload_n dX6_isMinded_32 rfl ?_
      refine V.iload dX6_isMinded_33 rfl ?_
      refine V.callSv [_, _] dX6_isMinded_35 lk_X6_181 rfl (Nat.le_of_ble_eq_true rfl) (Nat.le_of_ble_eq_true rfl) (s6_isFree _ _ _ _ _ _ (by assumption) _ (by omega)) ?_
      refine V.if_eqB (tgt := 73) dX6_isMinded_38 (by decide) (fun c38 => ?_) (fun c38 => ?_)
      · refine V.inN5 dX6_isMinded_73 (by decide) rfl ?_
        refine V.goto (tgt := 11) dX6_isMinded_76 (by decide) ?_
        exact ih (q + 1) (by omega) (by (try simp only [← Int32.not_le, Classical.not_not] at *); simp only [mdL, mdC, hf, c29, c38, not_true_eq_false, not_false_eq_true, if_true, if_false, decide_true, decide_false, Bool.and_true, Bool.and_false, Bool.true_and, Bool.false_and, Bool.or_true, Bool.or_false, Bool.true_or, Bool.false_or, Bool.not_true, Bool.not_false, and_true, and_false, true_and, false_and, or_true, or_false, true_or, false_or, bIt, bIf, Bool.false_eq_true, reduceCtorEq])
      · refine V.aload_n dX6_isMinded_41 rfl ?_
        refine V.iload dX6_isMinded_42 rfl ?_
        refine V.iconst (v := nI 4) dX6_isMinded_44 (by decide) ?_
        refine V.callSv [_, _, _] dX6_isMinded_45 lk_X6_82 rfl (Nat.le_of_ble_eq_true rfl) (Nat.le_of_ble_eq_true rfl) (s6_get _ _ _ _ _ _ (by assumption) _ _ (by omega) (by omega)) ?_
        refine V.callSv [_] dX6_isMinded_48 lk_X6_128 rfl (Nat.le_of_ble_eq_true rfl) (Nat.le_of_ble_eq_true rfl) (s6_halfOf _ _ _ _ _) ?_
        refine V.iload dX6_isMinded_51 rfl ?_
        refine V.icmp_eq (tgt := 73) dX6_isMinded_53 (by decide) (fun c53 => ?_) (fun c53 => ?_)
        · refine V.inN5 dX6_isMinded_73 (by decide) rfl ?_
          refine V.goto (tgt := 11) dX6_isMinded_76 (by decide) ?_
          exact ih (q + 1) (by omega) (by (try simp only [← Int32.not_le, Classical.not_not] at *); simp only [mdL, mdC, hf, c29, c38, eq_true c53, not_true_eq_false, not_false_eq_true, if_true, if_false, decide_true, decide_false, Bool.and_true, Bool.and_false, Bool.true_and, Bool.false_and, Bool.or_true, Bool.or_false, Bool.true_or, Bool.false_or, Bool.not_true, Bool.not_false, and_true, and_false, true_and, false_and, or_true, or_false, true_or, false_or, bIt, bIf, Bool.false_eq_true, reduceCtorEq])
        · refine V.aload_n dX6_isMinded_56 rfl ?_
          refine V.iload dX6_isMinded_57 rfl ?_
          refine V.iconst (v := nI 4) dX6_isMinded_59 (by decide) ?_
          refine V.callSv [_, _, _] dX6_isMinded_60 lk_X6_82 rfl (Nat.le_of_ble_eq_true rfl) (Nat.le_of_ble_eq_true rfl) (s6_get _ _ _ _ _ _ (by assumption) _ _ (by omega) (by omega)) ?_
          refine V.iload_n dX6_isMinded_63 rfl ?_
          refine V.callSv [_, _] dX6_isMinded_64 lk_X6_78 rfl (Nat.le_of_ble_eq_true rfl) (Nat.le_of_ble_eq_true rfl) (s6_nearOf _ _ _ _ _ _) ?_
          refine V.iload_n dX6_isMinded_67 rfl ?_
          refine V.icmp_gt (tgt := 73) dX6_isMinded_68 (by decide) (fun c68 => ?_) (fun c68 => ?_)
          · refine V.inN5 dX6_isMinded_73 (by decide) rfl ?_
            refine V.goto (tgt := 11) dX6_isMinded_76 (by decide) ?_
            exact ih (q + 1) (by omega) (by (try simp only [← Int32.not_le, Classical.not_not] at *); simp only [mdL, mdC, hf, c29, c38, c53, c68, not_true_eq_false, not_false_eq_true, if_true, if_false, decide_true, decide_false, Bool.and_true, Bool.and_false, Bool.true_and, Bool.false_and, Bool.or_true, Bool.or_false, Bool.true_or, Bool.false_or, Bool.not_true, Bool.not_false, and_true, and_false, true_and, false_and, or_true, or_false, true_or, false_or, bIt, bIf, Bool.false_eq_true, reduceCtorEq])
          · refine V.iconst (v := nI 1) dX6_isMinded_71 (by decide) ?_
            exact V.iretZ (by exact dX6_isMinded_72) rfl (by rw [mind, mdL_up (show q + 1 ≤ m by omega) (by (try simp only [← Int32.not_le, Classical.not_not] at *); simp only [mdL, mdC, hf, c29, c38, c53, c68, not_true_eq_false, not_false_eq_true, if_true, if_false, decide_true, decide_false, Bool.and_true, Bool.and_false, Bool.true_and, Bool.false_and, Bool.or_true, Bool.or_false, Bool.true_or, Bool.false_or, Bool.not_true, Bool.not_false, and_true, and_false, true_and, false_and, or_true, or_false, true_or, false_or, bIt, bIf, Bool.false_eq_true, reduceCtorEq]), bIt]) rfl
set_option maxRecDepth 20000 in
set_option maxHeartbeats 4000000 in
theorem s6_isMinded (l : Launch) (d : Nat) (h : MH) (n a : Nat) (K : KK) (ha : h a = some (kc K)) (p : Nat) (c f : Int32) (hp : p < 10) (m : Nat) (hm : K 90 = nI m) (hm10 : m ≤ 10) : Sp l mX6_isMinded (d + 2) [.ref a, .int (nI p), .int c, .int f] h n 0 0 (Pv (bI (mind K m p c f)) h n) := by
  show V _ _ _ _ [some (.ref a), some (.int (nI p)), some (.int c), some (.int f), none, none] _ _ _ _ _ _
  refine V.aload_n dX6_isMinded_0 rfl ?_
  refine V.iload_n dX6_isMinded_1 rfl ?_
  refine V.iconst (v := nI 0) dX6_isMinded_2 (by decide) ?_
  refine V.callSv [_, _, _] dX6_isMinded_3 lk_X6_82 rfl (Nat.le_of_ble_eq_true rfl) (Nat.le_of_ble_eq_true rfl) (s6_get _ _ _ _ _ _ (by assumption) _ _ (by omega) (by omega)) ?_
  refine V.ist4 dX6_isMinded_6 (by decide) rfl ?_
  refine V.iconst (v := nI 0) dX6_isMinded_8 (by decide) ?_
  refine V.ist5 dX6_isMinded_9 (by decide) rfl ?_
  exact s6_isMinded_loop l d h n a K ha p c f hp m hm hm10 m 0 (by omega) rfl
def pyC (K : KK) (m p : Nat) (home : Int32) (q : Nat) : Bool := !decide (gP K q 0 = gP K p 0) && (frB K q && (decide (hfc (gP K q 4) = gP K p 0) && (seB K p (gP K q 4) && decide (nr (gP K q 4) home ≤ role K m p 1 + nI 1))))
def pyL (K : KK) (m p : Nat) (home : Int32) : Nat → Int32
  | 0 => -4
  | q + 1 => if (pyC K m p home q && (decide (pyL K m p home q < 0) || decide (nr (gP K q 4) (gP K p 4) < nr (gP K (pyL K m p home q).toNatClampNeg 4) (gP K p 4)))) = true then nI q else pyL K m p home q
def prey (K : KK) (m p : Nat) : Int32 := pyL K m p (if role K m p 0 = nI 5 then gl (gP K p 0) else gP K p 3) m
theorem pyL_is (K : KK) (m p : Nat) (home : Int32) : ∀ q, pyL K m p home q = -4 ∨ ∃ j : Nat, j < q ∧ pyL K m p home q = nI j := by
  intro q
  induction q with
  | zero => exact Or.inl rfl
  | succ q ih =>
    rw [pyL]
    split
    · exact Or.inr ⟨q, by omega, rfl⟩
    · rcases ih with h | ⟨j, h1, h2⟩
      · exact Or.inl h
      · exact Or.inr ⟨j, by omega, h2⟩
theorem pyL_pos {K : KK} {m p : Nat} {home : Int32} {q : Nat} (hq : q ≤ 10) (h : ¬ pyL K m p home q < 0) : ∃ j : Nat, j < 10 ∧ pyL K m p home q = nI j := by
  rcases pyL_is K m p home q with e | ⟨j, h1, h2⟩
  · rw [e] at h; exact absurd (by decide) h
  · exact ⟨j, by omega, h2⟩
set_option maxRecDepth 20000 in
set_option maxHeartbeats 4000000 in
theorem s6_preyOf_loop (l : Launch) (d : Nat) (h : MH) (n a : Nat) (K : KK) (ha : h a = some (kc K)) (p : Nat) (home : Int32) (hp : p < 10) (m : Nat) (hm : K 90 = nI m) (hm10 : m ≤ 10) (e0 q0 : Nat) (he : e0 < 2) (hs : gP K p 0 = nI e0) (hq2 : q0 ≤ 2) (hq0 : K (100 + 7 * e0) = nI q0) (hat : ∀ q, q < m → gP K q 5 = nI 0 → cellv (gP K q 4)) : ∀ (r q : Nat), q + r = m → V l mX6_preyOf (d + 3) 38 [some (.ref a), some (.int (nI p)), some (.int (gP K p 0)), some (.int home), some (.int (pyL K m p home q)), some (.int (nI q)), none] [] h n 0 0 (Pv (pyL K m p home m) h n) := by
  intro r
  induction r with
  | zero =>
    intro q hq
    refine V.iload dX6_preyOf_38 rfl ?_
    refine V.aload_n dX6_preyOf_40 rfl ?_
    refine V.bipush (v := nI 90) dX6_preyOf_41 (by decide) ?_
    refine V.ialdN dX6_preyOf_43 (by assumption) (by omega) (by decide) ?_
    rw [hm]
    refine V.icmp_geN (tgt := 160) dX6_preyOf_44 (by decide) (by omega) (by omega) (fun _ => ?_) (fun q => absurd q (by omega))
    refine V.iload dX6_preyOf_160 rfl ?_
    exact V.iretP (by exact dX6_preyOf_162) rfl (by rw [show m = q by omega]) rfl
  | succ r ih =>
    intro q hq
    refine V.iload dX6_preyOf_38 rfl ?_
    refine V.aload_n dX6_preyOf_40 rfl ?_
    refine V.bipush (v := nI 90) dX6_preyOf_41 (by decide) ?_
    refine V.ialdN dX6_preyOf_43 (by assumption) (by omega) (by decide) ?_
    rw [hm]
    refine V.icmp_geN (tgt := 160) dX6_preyOf_44 (by decide) (by omega) (by omega) (fun q => absurd q (by omega)) (fun _ => ?_)
    refine V.aload_n dX6_preyOf_47 rfl ?_
    refine V.iload dX6_preyOf_48 rfl ?_
    refine V.iconst (v := nI 4) dX6_preyOf_50 (by decide) ?_
    refine V.callSv [_, _, _] dX6_preyOf_51 lk_X6_82 rfl (Nat.le_of_ble_eq_true rfl) (Nat.le_of_ble_eq_true rfl) (s6_get _ _ _ _ _ _ (by assumption) _ _ (by omega) (by omega)) ?_
    refine V.ist6 dX6_preyOf_54 (by decide) rfl ?_
    refine V.aload_n dX6_preyOf_56 rfl ?_
    refine V.iload dX6_preyOf_57 rfl ?_
    refine V.iconst (v := nI 0) dX6_preyOf_59 (by decide) ?_
    refine V.callSv [_, _, _] dX6_preyOf_60 lk_X6_82 rfl (Nat.le_of_ble_eq_true rfl) (Nat.le_of_ble_eq_true rfl) (s6_get _ _ _ _ _ _ (by assumption) _ _ (by omega) (by omega)) ?_
    refine V.iload_n dX6_preyOf_63 rfl ?_
    refine V.icmp_eq (tgt := 154) dX6_preyOf_64 (by decide) (fun c64 => ?_) (fun c64 => ?_)
    · refine V.inN5 dX6_preyOf_154 (by decide) rfl ?_
      refine V.goto (tgt := 38) dX6_preyOf_157 (by decide) ?_
      exact V.drop 6 (V.ls (by (try simp only [← Int32.not_le, Classical.not_not] at *); simp only [pyL, pyC, ← Int32.not_le, eq_true c64, not_true_eq_false, not_false_eq_true, if_true, if_false, decide_true, decide_false, Bool.and_true, Bool.and_false, Bool.true_and, Bool.false_and, Bool.or_true, Bool.or_false, Bool.true_or, Bool.false_or, Bool.not_true, Bool.not_false, and_true, and_false, true_and, false_and, or_true, or_false, true_or, false_or, bIt, bIf, Bool.false_eq_true, reduceCtorEq] <;> rfl) (ih (q + 1) (by omega)))
    · refine V.aload_n dX6_preyOf_67 rfl ?_
      refine V.iload dX6_preyOf_68 rfl ?_
      refine V.callSv [_, _] dX6_preyOf_70 lk_X6_181 rfl (Nat.le_of_ble_eq_true rfl) (Nat.le_of_ble_eq_true rfl) (s6_isFree _ _ _ _ _ _ (by assumption) _ (by omega)) ?_
      refine V.if_eqB (tgt := 154) dX6_preyOf_73 (by decide) (fun c73 => ?_) (fun c73 => ?_)
      · refine V.inN5 dX6_preyOf_154 (by decide) rfl ?_
        refine V.goto (tgt := 38) dX6_preyOf_157 (by decide) ?_
        exact V.drop 6 (V.ls (by (try simp only [← Int32.not_le, Classical.not_not] at *); simp only [pyL, pyC, ← Int32.not_le, c64, c73, not_true_eq_false, not_false_eq_true, if_true, if_false, decide_true, decide_false, Bool.and_true, Bool.and_false, Bool.true_and, Bool.false_and, Bool.or_true, Bool.or_false, Bool.true_or, Bool.false_or, Bool.not_true, Bool.not_false, and_true, and_false, true_and, false_and, or_true, or_false, true_or, false_or, bIt, bIf, Bool.false_eq_true, reduceCtorEq] <;> rfl) (ih (q + 1) (by omega)))
      · refine V.iload dX6_preyOf_76 rfl ?_
        refine V.callSv [_] dX6_preyOf_78 lk_X6_128 rfl (Nat.le_of_ble_eq_true rfl) (Nat.le_of_ble_eq_true rfl) (s6_halfOf _ _ _ _ _) ?_
        refine V.iload_n dX6_preyOf_81 rfl ?_
        refine V.icmp_ne (tgt := 154) dX6_preyOf_82 (by decide) (fun c82 => ?_) (fun c82 => ?_)
        · refine V.inN5 dX6_preyOf_154 (by decide) rfl ?_
          refine V.goto (tgt := 38) dX6_preyOf_157 (by decide) ?_
          exact V.drop 6 (V.ls (by (try simp only [← Int32.not_le, Classical.not_not] at *); simp only [pyL, pyC, ← Int32.not_le, c64, c73, c82, not_true_eq_false, not_false_eq_true, if_true, if_false, decide_true, decide_false, Bool.and_true, Bool.and_false, Bool.true_and, Bool.false_and, Bool.or_true, Bool.or_false, Bool.true_or, Bool.false_or, Bool.not_true, Bool.not_false, and_true, and_false, true_and, false_and, or_true, or_false, true_or, false_or, bIt, bIf, Bool.false_eq_true, reduceCtorEq] <;> rfl) (ih (q + 1) (by omega)))
        · refine V.aload_n dX6_preyOf_85 rfl ?_
          refine V.iload_n dX6_preyOf_86 rfl ?_
          refine V.iload dX6_preyOf_87 rfl ?_
          refine V.callSv [_, _, _] dX6_preyOf_89 lk_X6_185 rfl (Nat.le_of_ble_eq_true rfl) (Nat.le_of_ble_eq_true rfl) (s6_seesCellI _ _ _ _ _ _ (by assumption) _ _ (by omega) (hat _ (by omega) (frB_z c73))) ?_
          refine V.if_eqB (tgt := 154) dX6_preyOf_92 (by decide) (fun c92 => ?_) (fun c92 => ?_)
          · refine V.inN5 dX6_preyOf_154 (by decide) rfl ?_
            refine V.goto (tgt := 38) dX6_preyOf_157 (by decide) ?_
            exact V.drop 6 (V.ls (by (try simp only [← Int32.not_le, Classical.not_not] at *); simp only [pyL, pyC, ← Int32.not_le, c64, c73, eq_true c82, c92, not_true_eq_false, not_false_eq_true, if_true, if_false, decide_true, decide_false, Bool.and_true, Bool.and_false, Bool.true_and, Bool.false_and, Bool.or_true, Bool.or_false, Bool.true_or, Bool.false_or, Bool.not_true, Bool.not_false, and_true, and_false, true_and, false_and, or_true, or_false, true_or, false_or, bIt, bIf, Bool.false_eq_true, reduceCtorEq] <;> rfl) (ih (q + 1) (by omega)))
          · refine V.iload dX6_preyOf_95 rfl ?_
            refine V.iload_n dX6_preyOf_97 rfl ?_
            refine V.callSv [_, _] dX6_preyOf_98 lk_X6_78 rfl (Nat.le_of_ble_eq_true rfl) (Nat.le_of_ble_eq_true rfl) (s6_nearOf _ _ _ _ _ _) ?_
            refine V.aload_n dX6_preyOf_101 rfl ?_
            refine V.iload_n dX6_preyOf_102 rfl ?_
            refine V.iconst (v := nI 1) dX6_preyOf_103 (by decide) ?_
            refine V.callSv [_, _, _] dX6_preyOf_104 lk_X6_178 rfl (Nat.le_of_ble_eq_true rfl) (Nat.le_of_ble_eq_true rfl) (s6_roleOf _ _ _ _ _ _ (by assumption) _ _ (by omega) (by omega) _ (by assumption) (by assumption) _ _ (by assumption) (by assumption) (by assumption) (by assumption)) ?_
            refine V.iconst (v := nI 1) dX6_preyOf_107 (by decide) ?_
            refine V.iadd dX6_preyOf_108 ?_
            refine V.icmp_le (tgt := 115) dX6_preyOf_109 (by decide) (fun c109 => ?_) (fun c109 => ?_)
            · refine V.iload dX6_preyOf_115 rfl ?_
              refine V.if_lt (tgt := 150) dX6_preyOf_117 (by decide) (fun c117 => ?_) (fun c117 => ?_)
              · refine V.iload dX6_preyOf_150 rfl ?_
                refine V.ist4 dX6_preyOf_152 (by decide) rfl ?_
                refine V.inN5 dX6_preyOf_154 (by decide) rfl ?_
                refine V.goto (tgt := 38) dX6_preyOf_157 (by decide) ?_
                exact V.drop 6 (V.ls (by (try simp only [← Int32.not_le, Classical.not_not] at *); simp only [pyL, pyC, ← Int32.not_le, c64, c73, eq_true c82, c92, c109, c117, not_true_eq_false, not_false_eq_true, if_true, if_false, decide_true, decide_false, Bool.and_true, Bool.and_false, Bool.true_and, Bool.false_and, Bool.or_true, Bool.or_false, Bool.true_or, Bool.false_or, Bool.not_true, Bool.not_false, and_true, and_false, true_and, false_and, or_true, or_false, true_or, false_or, bIt, bIf, Bool.false_eq_true, reduceCtorEq] <;> rfl) (ih (q + 1) (by omega)))
              · refine V.iload dX6_preyOf_120 rfl ?_
                refine V.aload_n dX6_preyOf_122 rfl ?_
                refine V.iload_n dX6_preyOf_123 rfl ?_
                refine V.iconst (v := nI 4) dX6_preyOf_124 (by decide) ?_
                refine V.callSv [_, _, _] dX6_preyOf_125 lk_X6_82 rfl (Nat.le_of_ble_eq_true rfl) (Nat.le_of_ble_eq_true rfl) (s6_get _ _ _ _ _ _ (by assumption) _ _ (by omega) (by omega)) ?_
                refine V.callSv [_, _] dX6_preyOf_128 lk_X6_78 rfl (Nat.le_of_ble_eq_true rfl) (Nat.le_of_ble_eq_true rfl) (s6_nearOf _ _ _ _ _ _) ?_
                refine V.aload_n dX6_preyOf_131 rfl ?_
                refine V.iload dX6_preyOf_132 rfl ?_
                refine V.iconst (v := nI 4) dX6_preyOf_134 (by decide) ?_
                refine V.callSv [_, _, _] dX6_preyOf_135 lk_X6_82 rfl (Nat.le_of_ble_eq_true rfl) (Nat.le_of_ble_eq_true rfl) (s6_getI _ _ _ _ _ _ (by assumption) _ _ (pyL_pos (by omega) c117) (by omega)) ?_
                refine V.aload_n dX6_preyOf_138 rfl ?_
                refine V.iload_n dX6_preyOf_139 rfl ?_
                refine V.iconst (v := nI 4) dX6_preyOf_140 (by decide) ?_
                refine V.callSv [_, _, _] dX6_preyOf_141 lk_X6_82 rfl (Nat.le_of_ble_eq_true rfl) (Nat.le_of_ble_eq_true rfl) (s6_get _ _ _ _ _ _ (by assumption) _ _ (by omega) (by omega)) ?_
                refine V.callSv [_, _] dX6_preyOf_144 lk_X6_78 rfl (Nat.le_of_ble_eq_true rfl) (Nat.le_of_ble_eq_true rfl) (s6_nearOf _ _ _ _ _ _) ?_
                refine V.icmp_ge (tgt := 154) dX6_preyOf_147 (by decide) (fun c147 => ?_) (fun c147 => ?_)
                · refine V.inN5 dX6_preyOf_154 (by decide) rfl ?_
                  refine V.goto (tgt := 38) dX6_preyOf_157 (by decide) ?_
                  exact V.drop 6 (V.ls (by (try simp only [← Int32.not_le, Classical.not_not] at *); simp only [pyL, pyC, ← Int32.not_le, c64, c73, eq_true c82, c92, c109, c117, c147, not_true_eq_false, not_false_eq_true, if_true, if_false, decide_true, decide_false, Bool.and_true, Bool.and_false, Bool.true_and, Bool.false_and, Bool.or_true, Bool.or_false, Bool.true_or, Bool.false_or, Bool.not_true, Bool.not_false, and_true, and_false, true_and, false_and, or_true, or_false, true_or, false_or, bIt, bIf, Bool.false_eq_true, reduceCtorEq] <;> rfl) (ih (q + 1) (by omega)))
                · refine V.iload dX6_preyOf_150 rfl ?_
                  refine V.ist4 dX6_preyOf_152 (by decide) rfl ?_
                  refine V.inN5 dX6_preyOf_154 (by decide) rfl ?_
                  refine V.goto (tgt := 38) dX6_preyOf_157 (by decide) ?_
                  exact V.drop 6 (V.ls (by (try simp only [← Int32.not_le, Classical.not_not] at *); simp only [pyL, pyC, ← Int32.not_le, c64, c73, eq_true c82, c92, c109, c117, c147, not_true_eq_false, not_false_eq_true, if_true, if_false, decide_true, decide_false, Bool.and_true, Bool.and_false, Bool.true_and, Bool.false_and, Bool.or_true, Bool.or_false, Bool.true_or, Bool.false_or, Bool.not_true, Bool.not_false, and_true, and_false, true_and, false_and, or_true, or_false, true_or, false_or, bIt, bIf, Bool.false_eq_true, reduceCtorEq] <;> rfl) (ih (q + 1) (by omega)))
            · refine V.goto (tgt := 154) dX6_preyOf_112 (by decide) ?_
              refine V.inN5 dX6_preyOf_154 (by decide) rfl ?_
              refine V.goto (tgt := 38) dX6_preyOf_157 (by decide) ?_
              exact V.drop 6 (V.ls (by (try simp only [← Int32.not_le, Classical.not_not] at *); simp only [pyL, pyC, ← Int32.not_le, c64, c73, eq_true c82, c92, c109, not_true_eq_false, not_false_eq_true, if_true, if_false, decide_true, decide_false, Bool.and_true, Bool.and_false, Bool.true_and, Bool.false_and, Bool.or_true, Bool.or_false, Bool.true_or, Bool.false_or, Bool.not_true, Bool.not_false, and_true, and_false, true_and, false_and, or_true, or_false, true_or, false_or, bIt, bIf, Bool.false_eq_true, reduceCtorEq] <;> rfl) (ih (q + 1) (by omega)))
set_option maxRecDepth 20000 in
set_option maxHeartbeats 4000000 in
theorem s6_preyOf (l : Launch) (d : Nat) (h : MH) (n a : Nat) (K : KK) (ha : h a = some (kc K)) (p : Nat) (hp : p < 10) (m : Nat) (hm : K 90 = nI m) (hm10 : m ≤ 10) (e0 q0 : Nat) (he : e0 < 2) (hs : gP K p 0 = nI e0) (hq2 : q0 ≤ 2) (hq0 : K (100 + 7 * e0) = nI q0) (hat : ∀ q, q < m → gP K q 5 = nI 0 → cellv (gP K q 4)) : Sp l mX6_preyOf (d + 3) [.ref a, .int (nI p)] h n 0 0 (Pv (prey K m p) h n) := by
  show V _ _ _ _ [some (.ref a), some (.int (nI p)), none, none, none, none, none] _ _ _ _ _ _
  refine V.aload_n dX6_preyOf_0 rfl ?_
  refine V.iload_n dX6_preyOf_1 rfl ?_
  refine V.iconst (v := nI 0) dX6_preyOf_2 (by decide) ?_
  refine V.callSv [_, _, _] dX6_preyOf_3 lk_X6_82 rfl (Nat.le_of_ble_eq_true rfl) (Nat.le_of_ble_eq_true rfl) (s6_get _ _ _ _ _ _ (by assumption) _ _ (by omega) (by omega)) ?_
  refine V.ist2 dX6_preyOf_6 (by decide) rfl ?_
  refine V.aload_n dX6_preyOf_7 rfl ?_
  refine V.iload_n dX6_preyOf_8 rfl ?_
  refine V.iconst (v := nI 0) dX6_preyOf_9 (by decide) ?_
  refine V.callSv [_, _, _] dX6_preyOf_10 lk_X6_178 rfl (Nat.le_of_ble_eq_true rfl) (Nat.le_of_ble_eq_true rfl) (s6_roleOf _ _ _ _ _ _ (by assumption) _ _ (by omega) (by omega) _ (by assumption) (by assumption) _ _ (by assumption) (by assumption) (by assumption) (by assumption)) ?_
  refine V.iconst (v := nI 5) dX6_preyOf_13 (by decide) ?_
  refine V.icmp_ne (tgt := 24) dX6_preyOf_14 (by decide) (fun c14 => ?_) (fun c14 => ?_)
  · refine V.aload_n dX6_preyOf_24 rfl ?_
    refine V.iload_n dX6_preyOf_25 rfl ?_
    refine V.iconst (v := nI 3) dX6_preyOf_26 (by decide) ?_
    refine V.callSv [_, _, _] dX6_preyOf_27 lk_X6_82 rfl (Nat.le_of_ble_eq_true rfl) (Nat.le_of_ble_eq_true rfl) (s6_get _ _ _ _ _ _ (by assumption) _ _ (by omega) (by omega)) ?_
    refine V.ist3 dX6_preyOf_30 (by decide) rfl ?_
    refine V.bipush (v := -4) dX6_preyOf_31 (by decide) ?_
    refine V.ist4 dX6_preyOf_33 (by decide) rfl ?_
    refine V.iconst (v := nI 0) dX6_preyOf_35 (by decide) ?_
    refine V.ist5 dX6_preyOf_36 (by decide) rfl ?_
    refine V.mono ?_ (s6_preyOf_loop l d h n a K ha p _ hp m hm hm10 e0 q0 he hs hq2 hq0 hat m 0 (by omega))
    intro r h1 n1 q1
    simp only [prey, c14, if_true, if_false]
    exact q1
  · refine V.iload_n dX6_preyOf_17 rfl ?_
    refine V.callSv [_] dX6_preyOf_18 lk_X6_75 rfl (Nat.le_of_ble_eq_true rfl) (Nat.le_of_ble_eq_true rfl) (s6_gaolOf _ _ _ _ _) ?_
    refine V.goto (tgt := 30) dX6_preyOf_21 (by decide) ?_
    refine V.ist3 dX6_preyOf_30 (by decide) rfl ?_
    refine V.bipush (v := -4) dX6_preyOf_31 (by decide) ?_
    refine V.ist4 dX6_preyOf_33 (by decide) rfl ?_
    refine V.iconst (v := nI 0) dX6_preyOf_35 (by decide) ?_
    refine V.ist5 dX6_preyOf_36 (by decide) rfl ?_
    refine V.mono ?_ (s6_preyOf_loop l d h n a K ha p _ hp m hm hm10 e0 q0 he hs hq2 hq0 hat m 0 (by omega))
    intro r h1 n1 q1
    simp only [prey, eq_true c14, if_true, if_false]
    exact q1
def cEn (K : KK) (p : Nat) (x y : Int32) : Bool := wi x (nI 0) (nI 11) && (wi y (nI 0) (nI 6) && (!decide (K (nI 12 * y + x).toNatClampNeg = nI 3) && (!ring K (gP K p 0) (nI 12 * y + x) || ring K (gP K p 0) (gP K p 4))))
set_option maxRecDepth 20000 in
set_option maxHeartbeats 4000000 in
theorem s6_canEnter (l : Launch) (d : Nat) (h : MH) (n a : Nat) (K : KK) (ha : h a = some (kc K)) (p : Nat) (x y : Int32) (hp : p < 10) : Sp l mX6_canEnter (d + 3) [.ref a, .int (nI p), .int x, .int y] h n 0 0 (Pv (bI (cEn K p x y)) h n) := by
  show V _ _ _ _ [some (.ref a), some (.int (nI p)), some (.int x), some (.int y), none, none] _ _ _ _ _ _
  refine V.iload_n dX6_canEnter_0 rfl ?_
  refine V.i2l dX6_canEnter_1 ?_
  refine V.lconst (v := 0) dX6_canEnter_2 (by decide) ?_
  refine V.ldc2 dX6_canEnter_3 cn_X6_204 ?_
  refine V.callSv [_, _, _] dX6_canEnter_6 lk_X6_62 rfl (Nat.le_of_ble_eq_true rfl) (Nat.le_of_ble_eq_true rfl) (s6_isInC _ _ _ (nI 0) (nI 11) (by decide) (by decide) _ _) ?_
  refine V.if_eqB (tgt := 24) dX6_canEnter_9 (by decide) (fun c9 => ?_) (fun c9 => ?_)
  · refine V.iconst (v := nI 0) dX6_canEnter_24 (by decide) ?_
    exact V.iretZ (by exact dX6_canEnter_25) rfl (by (try simp only [← Int32.not_le, Classical.not_not] at *); simp only [cEn, ← Int32.not_le, c9, not_true_eq_false, not_false_eq_true, if_true, if_false, decide_true, decide_false, Bool.and_true, Bool.and_false, Bool.true_and, Bool.false_and, Bool.or_true, Bool.or_false, Bool.true_or, Bool.false_or, Bool.not_true, Bool.not_false, and_true, and_false, true_and, false_and, or_true, or_false, true_or, false_or, bIt, bIf, Bool.false_eq_true, reduceCtorEq]) rfl
  · refine V.iload_n dX6_canEnter_12 rfl ?_
    refine V.i2l dX6_canEnter_13 ?_
    refine V.lconst (v := 0) dX6_canEnter_14 (by decide) ?_
    refine V.ldc2 dX6_canEnter_15 cn_X6_206 ?_
    refine V.callSv [_, _, _] dX6_canEnter_18 lk_X6_62 rfl (Nat.le_of_ble_eq_true rfl) (Nat.le_of_ble_eq_true rfl) (s6_isInC _ _ _ (nI 0) (nI 6) (by decide) (by decide) _ _) ?_
    refine V.if_neB (tgt := 26) dX6_canEnter_21 (by decide) (fun c21 => ?_) (fun c21 => ?_)
    · obtain ⟨xn, hxn, rfl⟩ := wi_ex (by decide) c9
      obtain ⟨yn, hyn, rfl⟩ := wi_ex (by decide) c21
      refine V.bipush (v := nI 12) dX6_canEnter_26 (by decide) ?_
      refine V.iload_n dX6_canEnter_28 rfl ?_
      refine V.imulN dX6_canEnter_29 ?_
      refine V.iload_n dX6_canEnter_30 rfl ?_
      refine V.iaddN dX6_canEnter_31 ?_
      refine V.ist4 dX6_canEnter_32 (by decide) rfl ?_
      refine V.aload_n dX6_canEnter_34 rfl ?_
      refine V.iload_n dX6_canEnter_35 rfl ?_
      refine V.iconst (v := nI 0) dX6_canEnter_36 (by decide) ?_
      refine V.callSv [_, _, _] dX6_canEnter_37 lk_X6_82 rfl (Nat.le_of_ble_eq_true rfl) (Nat.le_of_ble_eq_true rfl) (s6_get _ _ _ _ _ _ (by assumption) _ _ (by omega) (by omega)) ?_
      refine V.ist5 dX6_canEnter_40 (by decide) rfl ?_
      refine V.aload_n dX6_canEnter_42 rfl ?_
      refine V.iload dX6_canEnter_43 rfl ?_
      refine V.ialdN dX6_canEnter_45 (by assumption) (by omega) (by decide) ?_
      refine V.iconst (v := nI 3) dX6_canEnter_46 (by decide) ?_
      refine V.icmp_eq (tgt := 80) dX6_canEnter_47 (by decide) (fun c47 => ?_) (fun c47 => ?_)
      · refine V.iconst (v := nI 0) dX6_canEnter_80 (by decide) ?_
        exact V.iretZ (by exact dX6_canEnter_81) rfl (by (try simp only [← Int32.not_le, Classical.not_not] at *); simp only [cEn, pk_mul, nI_add, clampI (show 12 * yn + xn < 2147483648 by omega), ← Int32.not_le, c9, c21, eq_true c47, not_true_eq_false, not_false_eq_true, if_true, if_false, decide_true, decide_false, Bool.and_true, Bool.and_false, Bool.true_and, Bool.false_and, Bool.or_true, Bool.or_false, Bool.true_or, Bool.false_or, Bool.not_true, Bool.not_false, and_true, and_false, true_and, false_and, or_true, or_false, true_or, false_or, bIt, bIf, Bool.false_eq_true, reduceCtorEq]) rfl
      · refine V.aload_n dX6_canEnter_50 rfl ?_
        refine V.iload dX6_canEnter_51 rfl ?_
        refine V.iload dX6_canEnter_53 rfl ?_
        refine V.callSv [_, _, _] dX6_canEnter_55 lk_X6_131 rfl (Nat.le_of_ble_eq_true rfl) (Nat.le_of_ble_eq_true rfl) (s6_isRing _ _ _ _ _ _ (by assumption) _ _) ?_
        refine V.if_eqB (tgt := 76) dX6_canEnter_58 (by decide) (fun c58 => ?_) (fun c58 => ?_)
        · refine V.iconst (v := nI 1) dX6_canEnter_76 (by decide) ?_
          refine V.goto (tgt := 81) dX6_canEnter_77 (by decide) ?_
          exact V.iretZ (by exact dX6_canEnter_81) rfl (by (try simp only [← Int32.not_le, Classical.not_not] at *); simp only [cEn, pk_mul, nI_add, clampI (show 12 * yn + xn < 2147483648 by omega), ← Int32.not_le, c9, c21, c47, c58, not_true_eq_false, not_false_eq_true, if_true, if_false, decide_true, decide_false, Bool.and_true, Bool.and_false, Bool.true_and, Bool.false_and, Bool.or_true, Bool.or_false, Bool.true_or, Bool.false_or, Bool.not_true, Bool.not_false, and_true, and_false, true_and, false_and, or_true, or_false, true_or, false_or, bIt, bIf, Bool.false_eq_true, reduceCtorEq]) rfl
        · refine V.aload_n dX6_canEnter_61 rfl ?_
          refine V.iload dX6_canEnter_62 rfl ?_
          refine V.aload_n dX6_canEnter_64 rfl ?_
          refine V.iload_n dX6_canEnter_65 rfl ?_
          refine V.iconst (v := nI 4) dX6_canEnter_66 (by decide) ?_
          refine V.callSv [_, _, _] dX6_canEnter_67 lk_X6_82 rfl (Nat.le_of_ble_eq_true rfl) (Nat.le_of_ble_eq_true rfl) (s6_get _ _ _ _ _ _ (by assumption) _ _ (by omega) (by omega)) ?_
          refine V.callSv [_, _, _] dX6_canEnter_70 lk_X6_131 rfl (Nat.le_of_ble_eq_true rfl) (Nat.le_of_ble_eq_true rfl) (s6_isRing _ _ _ _ _ _ (by assumption) _ _) ?_
          refine V.if_eqB (tgt := 80) dX6_canEnter_73 (by decide) (fun c73 => ?_) (fun c73 => ?_)
          · refine V.iconst (v := nI 0) dX6_canEnter_80 (by decide) ?_
            exact V.iretZ (by exact dX6_canEnter_81) rfl (by (try simp only [← Int32.not_le, Classical.not_not] at *); simp only [cEn, pk_mul, nI_add, clampI (show 12 * yn + xn < 2147483648 by omega), ← Int32.not_le, c9, c21, c47, c58, c73, not_true_eq_false, not_false_eq_true, if_true, if_false, decide_true, decide_false, Bool.and_true, Bool.and_false, Bool.true_and, Bool.false_and, Bool.or_true, Bool.or_false, Bool.true_or, Bool.false_or, Bool.not_true, Bool.not_false, and_true, and_false, true_and, false_and, or_true, or_false, true_or, false_or, bIt, bIf, Bool.false_eq_true, reduceCtorEq]) rfl
          · refine V.iconst (v := nI 1) dX6_canEnter_76 (by decide) ?_
            refine V.goto (tgt := 81) dX6_canEnter_77 (by decide) ?_
            exact V.iretZ (by exact dX6_canEnter_81) rfl (by (try simp only [← Int32.not_le, Classical.not_not] at *); simp only [cEn, pk_mul, nI_add, clampI (show 12 * yn + xn < 2147483648 by omega), ← Int32.not_le, c9, c21, c47, c58, c73, not_true_eq_false, not_false_eq_true, if_true, if_false, decide_true, decide_false, Bool.and_true, Bool.and_false, Bool.true_and, Bool.false_and, Bool.or_true, Bool.or_false, Bool.true_or, Bool.false_or, Bool.not_true, Bool.not_false, and_true, and_false, true_and, false_and, or_true, or_false, true_or, false_or, bIt, bIf, Bool.false_eq_true, reduceCtorEq]) rfl
    · refine V.iconst (v := nI 0) dX6_canEnter_24 (by decide) ?_
      exact V.iretZ (by exact dX6_canEnter_25) rfl (by (try simp only [← Int32.not_le, Classical.not_not] at *); simp only [cEn, ← Int32.not_le, c9, c21, not_true_eq_false, not_false_eq_true, if_true, if_false, decide_true, decide_false, Bool.and_true, Bool.and_false, Bool.true_and, Bool.false_and, Bool.or_true, Bool.or_false, Bool.true_or, Bool.false_or, Bool.not_true, Bool.not_false, and_true, and_false, true_and, false_and, or_true, or_false, true_or, false_or, bIt, bIf, Bool.false_eq_true, reduceCtorEq]) rfl
def acr (K : KK) (p : Nat) (g : Int32) : Int32 := rm g - rm (gP K p 4)
def dwn (K : KK) (p : Nat) (g : Int32) : Int32 := g / nI 12 - gP K p 4 / nI 12
def tX (K : KK) (p : Nat) (g : Int32) : Bool := !decide (sgn (acr K p g) = 0) && cEn K p (rm (gP K p 4) + sgn (acr K p g)) (gP K p 4 / nI 12 + nI 0)
def tY (K : KK) (p : Nat) (g : Int32) : Bool := !decide (sgn (dwn K p g) = 0) && cEn K p (rm (gP K p 4) + nI 0) (gP K p 4 / nI 12 + sgn (dwn K p g))
def vX (K : KK) (p : Nat) (g : Int32) : Int32 := nI 12 * (gP K p 4 / nI 12 + nI 0) + rm (gP K p 4) + sgn (acr K p g)
def vY (K : KK) (p : Nat) (g : Int32) : Int32 := nI 12 * (gP K p 4 / nI 12 + sgn (dwn K p g)) + rm (gP K p 4) + nI 0
def nxt (K : KK) (p : Nat) (g : Int32) : Int32 := if am (dwn K p g) ≤ am (acr K p g) then (if tX K p g = true then vX K p g else if tY K p g = true then vY K p g else gP K p 4) else (if tY K p g = true then vY K p g else if tX K p g = true then vX K p g else gP K p 4)
set_option maxRecDepth 20000 in
set_option maxHeartbeats 4000000 in
theorem s6_nextOf (l : Launch) (d : Nat) (h : MH) (n a : Nat) (K : KK) (ha : h a = some (kc K)) (p : Nat) (g : Int32) (hp : p < 10) : Sp l mX6_nextOf (d + 4) [.ref a, .int (nI p), .int g] h n 0 0 (Pv (nxt K p g) h n) := by
  show V _ _ _ _ [some (.ref a), some (.int (nI p)), some (.int g), none, none, none, none, none, none, none, none, none, none] _ _ _ _ _ _
  refine V.aload_n dX6_nextOf_0 rfl ?_
  refine V.iload_n dX6_nextOf_1 rfl ?_
  refine V.iconst (v := nI 4) dX6_nextOf_2 (by decide) ?_
  refine V.callSv [_, _, _] dX6_nextOf_3 lk_X6_82 rfl (Nat.le_of_ble_eq_true rfl) (Nat.le_of_ble_eq_true rfl) (s6_get _ _ _ _ _ _ (by assumption) _ _ (by omega) (by omega)) ?_
  refine V.ist3 dX6_nextOf_6 (by decide) rfl ?_
  refine V.iload_n dX6_nextOf_7 rfl ?_
  refine V.bipush (v := nI 12) dX6_nextOf_8 (by decide) ?_
  refine V.irem dX6_nextOf_10 (by decide) ?_
  refine V.ist4 dX6_nextOf_11 (by decide) rfl ?_
  refine V.iload_n dX6_nextOf_13 rfl ?_
  refine V.bipush (v := nI 12) dX6_nextOf_14 (by decide) ?_
  refine V.idiv dX6_nextOf_16 (by decide) ?_
  refine V.ist5 dX6_nextOf_17 (by decide) rfl ?_
  refine V.iload_n dX6_nextOf_19 rfl ?_
  refine V.bipush (v := nI 12) dX6_nextOf_20 (by decide) ?_
  refine V.irem dX6_nextOf_22 (by decide) ?_
  refine V.iload dX6_nextOf_23 rfl ?_
  refine V.isub dX6_nextOf_25 ?_
  refine V.ist6 dX6_nextOf_26 (by decide) rfl ?_
  refine V.iload_n dX6_nextOf_28 rfl ?_
  refine V.bipush (v := nI 12) dX6_nextOf_29 (by decide) ?_
  refine V.idiv dX6_nextOf_31 (by decide) ?_
  refine V.iload dX6_nextOf_32 rfl ?_
  refine V.isub dX6_nextOf_34 ?_
  refine V.ist7 dX6_nextOf_35 (by decide) rfl ?_
  refine V.iload dX6_nextOf_37 rfl ?_
  refine V.callSv [_] dX6_nextOf_39 lk_X6_68 rfl (Nat.le_of_ble_eq_true rfl) (Nat.le_of_ble_eq_true rfl) (s6_amount _ _ _ _ _) ?_
  refine V.iload dX6_nextOf_42 rfl ?_
  refine V.callSv [_] dX6_nextOf_44 lk_X6_68 rfl (Nat.le_of_ble_eq_true rfl) (Nat.le_of_ble_eq_true rfl) (s6_amount _ _ _ _ _) ?_
  refine V.icmp_lt (tgt := 54) dX6_nextOf_47 (by decide) (fun c47 => ?_) (fun c47 => ?_)
  · refine V.iconst (v := nI 0) dX6_nextOf_54 (by decide) ?_
    refine V.ist8 dX6_nextOf_55 (by decide) rfl ?_
    refine V.iconst (v := nI 0) dX6_nextOf_57 (by decide) ?_
    refine V.ist9 dX6_nextOf_58 (by decide) rfl ?_
    refine V.iload dX6_nextOf_60 rfl ?_
    refine V.iconst (v := nI 2) dX6_nextOf_62 (by decide) ?_
    refine V.icmp_ge (tgt := 172) dX6_nextOf_63 (by decide) (fun q => absurd q (by decide)) (fun _ => ?_)
    refine V.iload dX6_nextOf_66 rfl ?_
    refine V.iload dX6_nextOf_68 rfl ?_
    refine V.if_ne (tgt := 77) dX6_nextOf_70 (by decide) (fun q => absurd q (by decide)) (fun _ => ?_)
    refine V.iconst (v := nI 1) dX6_nextOf_73 (by decide) ?_
    refine V.goto (tgt := 78) dX6_nextOf_74 (by decide) ?_
    refine V.icmp_ne (tgt := 85) dX6_nextOf_78 (by decide) (fun _ => ?_) (fun q => absurd q (by decide))
    refine V.iconst (v := nI 0) dX6_nextOf_85 (by decide) ?_
    refine V.ist10 dX6_nextOf_86 (by decide) rfl ?_
    refine V.iload dX6_nextOf_88 rfl ?_
    refine V.if_eq (tgt := 101) dX6_nextOf_90 (by decide) (fun _ => ?_) (fun q => absurd q (by decide))
    refine V.iconst (v := nI 0) dX6_nextOf_101 (by decide) ?_
    refine V.ist11 dX6_nextOf_102 (by decide) rfl ?_
    refine V.iload dX6_nextOf_104 rfl ?_
    refine V.if_eq (tgt := 113) dX6_nextOf_106 (by decide) (fun _ => ?_) (fun q => absurd q (by decide))
    refine V.iload dX6_nextOf_113 rfl ?_
    refine V.callSv [_] dX6_nextOf_115 lk_X6_208 rfl (Nat.le_of_ble_eq_true rfl) (Nat.le_of_ble_eq_true rfl) (s6_signOf _ _ _ _ _) ?_
    refine V.ist12 dX6_nextOf_118 (by decide) rfl ?_
    refine V.iload dX6_nextOf_120 rfl ?_
    refine V.if_ne (tgt := 133) dX6_nextOf_122 (by decide) (fun q => absurd q (by decide)) (fun _ => ?_)
    refine V.iload dX6_nextOf_125 rfl ?_
    refine V.if_ne (tgt := 133) dX6_nextOf_127 (by decide) (fun c127 => ?_) (fun c127 => ?_)
    · refine V.aload_n dX6_nextOf_133 rfl ?_
      refine V.iload_n dX6_nextOf_134 rfl ?_
      refine V.iload dX6_nextOf_135 rfl ?_
      refine V.iload dX6_nextOf_137 rfl ?_
      refine V.iadd dX6_nextOf_139 ?_
      refine V.iload dX6_nextOf_140 rfl ?_
      refine V.iload dX6_nextOf_142 rfl ?_
      refine V.iadd dX6_nextOf_144 ?_
      refine V.callSv [_, _, _, _] dX6_nextOf_145 lk_X6_211 rfl (Nat.le_of_ble_eq_true rfl) (Nat.le_of_ble_eq_true rfl) (s6_canEnter _ _ _ _ _ _ (by assumption) _ _ _ (by omega)) ?_
      refine V.if_eqB (tgt := 166) dX6_nextOf_148 (by decide) (fun c148 => ?_) (fun c148 => ?_)
      · refine V.inN9 dX6_nextOf_166 (by decide) rfl ?_
        refine V.goto (tgt := 60) dX6_nextOf_169 (by decide) ?_
        refine V.iload dX6_nextOf_60 rfl ?_
        refine V.iconst (v := nI 2) dX6_nextOf_62 (by decide) ?_
        refine V.icmp_ge (tgt := 172) dX6_nextOf_63 (by decide) (fun q => absurd q (by decide)) (fun _ => ?_)
        refine V.iload dX6_nextOf_66 rfl ?_
        refine V.iload dX6_nextOf_68 rfl ?_
        refine V.if_ne (tgt := 77) dX6_nextOf_70 (by decide) (fun _ => ?_) (fun q => absurd q (by decide))
        refine V.iconst (v := nI 0) dX6_nextOf_77 (by decide) ?_
        refine V.icmp_ne (tgt := 85) dX6_nextOf_78 (by decide) (fun q => absurd q (by decide)) (fun _ => ?_)
        refine V.iconst (v := nI 1) dX6_nextOf_81 (by decide) ?_
        refine V.goto (tgt := 86) dX6_nextOf_82 (by decide) ?_
        refine V.ist10 dX6_nextOf_86 (by decide) rfl ?_
        refine V.iload dX6_nextOf_88 rfl ?_
        refine V.if_eq (tgt := 101) dX6_nextOf_90 (by decide) (fun q => absurd q (by decide)) (fun _ => ?_)
        refine V.iload dX6_nextOf_93 rfl ?_
        refine V.callSv [_] dX6_nextOf_95 lk_X6_208 rfl (Nat.le_of_ble_eq_true rfl) (Nat.le_of_ble_eq_true rfl) (s6_signOf _ _ _ _ _) ?_
        refine V.goto (tgt := 102) dX6_nextOf_98 (by decide) ?_
        refine V.ist11 dX6_nextOf_102 (by decide) rfl ?_
        refine V.iload dX6_nextOf_104 rfl ?_
        refine V.if_eq (tgt := 113) dX6_nextOf_106 (by decide) (fun q => absurd q (by decide)) (fun _ => ?_)
        refine V.iconst (v := nI 0) dX6_nextOf_109 (by decide) ?_
        refine V.goto (tgt := 118) dX6_nextOf_110 (by decide) ?_
        refine V.ist12 dX6_nextOf_118 (by decide) rfl ?_
        refine V.iload dX6_nextOf_120 rfl ?_
        refine V.if_ne (tgt := 133) dX6_nextOf_122 (by decide) (fun c122 => ?_) (fun c122 => ?_)
        · refine V.aload_n dX6_nextOf_133 rfl ?_
          refine V.iload_n dX6_nextOf_134 rfl ?_
          refine V.iload dX6_nextOf_135 rfl ?_
          refine V.iload dX6_nextOf_137 rfl ?_
          refine V.iadd dX6_nextOf_139 ?_
          refine V.iload dX6_nextOf_140 rfl ?_
          refine V.iload dX6_nextOf_142 rfl ?_
          refine V.iadd dX6_nextOf_144 ?_
          refine V.callSv [_, _, _, _] dX6_nextOf_145 lk_X6_211 rfl (Nat.le_of_ble_eq_true rfl) (Nat.le_of_ble_eq_true rfl) (s6_canEnter _ _ _ _ _ _ (by assumption) _ _ _ (by omega)) ?_
          refine V.if_eqB (tgt := 166) dX6_nextOf_148 (by decide) (fun c148x => ?_) (fun c148x => ?_)
          · refine V.inN9 dX6_nextOf_166 (by decide) rfl ?_
            refine V.goto (tgt := 60) dX6_nextOf_169 (by decide) ?_
            refine V.iload dX6_nextOf_60 rfl ?_
            refine V.iconst (v := nI 2) dX6_nextOf_62 (by decide) ?_
            refine V.icmp_ge (tgt := 172) dX6_nextOf_63 (by decide) (fun _ => ?_) (fun q => absurd q (by decide))
            refine V.iload_n dX6_nextOf_172 rfl ?_
            exact V.iretP (by exact dX6_nextOf_173) rfl (by (try simp only [← Int32.not_le, Classical.not_not] at *); simp only [nxt, tX, tY, vX, vY, acr, dwn, rm, ← Int32.not_le, c47, c127, c148, c122, c148x, not_true_eq_false, not_false_eq_true, if_true, if_false, decide_true, decide_false, Bool.and_true, Bool.and_false, Bool.true_and, Bool.false_and, Bool.or_true, Bool.or_false, Bool.true_or, Bool.false_or, Bool.not_true, Bool.not_false, and_true, and_false, true_and, false_and, or_true, or_false, true_or, false_or, bIt, bIf, Bool.false_eq_true, reduceCtorEq]) rfl
          · refine V.bipush (v := nI 12) dX6_nextOf_151 (by decide) ?_
            refine V.iload dX6_nextOf_153 rfl ?_
            refine V.iload dX6_nextOf_155 rfl ?_
            refine V.iadd dX6_nextOf_157 ?_
            refine V.imul dX6_nextOf_158 ?_
            refine V.iload dX6_nextOf_159 rfl ?_
            refine V.iadd dX6_nextOf_161 ?_
            refine V.iload dX6_nextOf_162 rfl ?_
            refine V.iadd dX6_nextOf_164 ?_
            exact V.iretP (by exact dX6_nextOf_165) rfl (by (try simp only [← Int32.not_le, Classical.not_not] at *); simp only [nxt, tX, tY, vX, vY, acr, dwn, rm, ← Int32.not_le, c47, c127, c148, c122, c148x, not_true_eq_false, not_false_eq_true, if_true, if_false, decide_true, decide_false, Bool.and_true, Bool.and_false, Bool.true_and, Bool.false_and, Bool.or_true, Bool.or_false, Bool.true_or, Bool.false_or, Bool.not_true, Bool.not_false, and_true, and_false, true_and, false_and, or_true, or_false, true_or, false_or, bIt, bIf, Bool.false_eq_true, reduceCtorEq]) rfl
        · refine V.iload dX6_nextOf_125 rfl ?_
          refine V.if_ne (tgt := 133) dX6_nextOf_127 (by decide) (fun q => absurd q (by decide)) (fun _ => ?_)
          refine V.goto (tgt := 166) dX6_nextOf_130 (by decide) ?_
          refine V.inN9 dX6_nextOf_166 (by decide) rfl ?_
          refine V.goto (tgt := 60) dX6_nextOf_169 (by decide) ?_
          refine V.iload dX6_nextOf_60 rfl ?_
          refine V.iconst (v := nI 2) dX6_nextOf_62 (by decide) ?_
          refine V.icmp_ge (tgt := 172) dX6_nextOf_63 (by decide) (fun _ => ?_) (fun q => absurd q (by decide))
          refine V.iload_n dX6_nextOf_172 rfl ?_
          exact V.iretP (by exact dX6_nextOf_173) rfl (by (try simp only [← Int32.not_le, Classical.not_not] at *); simp only [nxt, tX, tY, vX, vY, acr, dwn, rm, ← Int32.not_le, c47, c127, c148, eq_true c122, not_true_eq_false, not_false_eq_true, if_true, if_false, decide_true, decide_false, Bool.and_true, Bool.and_false, Bool.true_and, Bool.false_and, Bool.or_true, Bool.or_false, Bool.true_or, Bool.false_or, Bool.not_true, Bool.not_false, and_true, and_false, true_and, false_and, or_true, or_false, true_or, false_or, bIt, bIf, Bool.false_eq_true, reduceCtorEq]) rfl
      · refine V.bipush (v := nI 12) dX6_nextOf_151 (by decide) ?_
        refine V.iload dX6_nextOf_153 rfl ?_
        refine V.iload dX6_nextOf_155 rfl ?_
        refine V.iadd dX6_nextOf_157 ?_
        refine V.imul dX6_nextOf_158 ?_
        refine V.iload dX6_nextOf_159 rfl ?_
        refine V.iadd dX6_nextOf_161 ?_
        refine V.iload dX6_nextOf_162 rfl ?_
        refine V.iadd dX6_nextOf_164 ?_
        exact V.iretP (by exact dX6_nextOf_165) rfl (by (try simp only [← Int32.not_le, Classical.not_not] at *); simp only [nxt, tX, tY, vX, vY, acr, dwn, rm, ← Int32.not_le, c47, c127, c148, not_true_eq_false, not_false_eq_true, if_true, if_false, decide_true, decide_false, Bool.and_true, Bool.and_false, Bool.true_and, Bool.false_and, Bool.or_true, Bool.or_false, Bool.true_or, Bool.false_or, Bool.not_true, Bool.not_false, and_true, and_false, true_and, false_and, or_true, or_false, true_or, false_or, bIt, bIf, Bool.false_eq_true, reduceCtorEq]) rfl
    · refine V.goto (tgt := 166) dX6_nextOf_130 (by decide) ?_
      refine V.inN9 dX6_nextOf_166 (by decide) rfl ?_
      refine V.goto (tgt := 60) dX6_nextOf_169 (by decide) ?_
      refine V.iload dX6_nextOf_60 rfl ?_
      refine V.iconst (v := nI 2) dX6_nextOf_62 (by decide) ?_
      refine V.icmp_ge (tgt := 172) dX6_nextOf_63 (by decide) (fun q => absurd q (by decide)) (fun _ => ?_)
      refine V.iload dX6_nextOf_66 rfl ?_
      refine V.iload dX6_nextOf_68 rfl ?_
      refine V.if_ne (tgt := 77) dX6_nextOf_70 (by decide) (fun _ => ?_) (fun q => absurd q (by decide))
      refine V.iconst (v := nI 0) dX6_nextOf_77 (by decide) ?_
      refine V.icmp_ne (tgt := 85) dX6_nextOf_78 (by decide) (fun q => absurd q (by decide)) (fun _ => ?_)
      refine V.iconst (v := nI 1) dX6_nextOf_81 (by decide) ?_
      refine V.goto (tgt := 86) dX6_nextOf_82 (by decide) ?_
      refine V.ist10 dX6_nextOf_86 (by decide) rfl ?_
      refine V.iload dX6_nextOf_88 rfl ?_
      refine V.if_eq (tgt := 101) dX6_nextOf_90 (by decide) (fun q => absurd q (by decide)) (fun _ => ?_)
      refine V.iload dX6_nextOf_93 rfl ?_
      refine V.callSv [_] dX6_nextOf_95 lk_X6_208 rfl (Nat.le_of_ble_eq_true rfl) (Nat.le_of_ble_eq_true rfl) (s6_signOf _ _ _ _ _) ?_
      refine V.goto (tgt := 102) dX6_nextOf_98 (by decide) ?_
      refine V.ist11 dX6_nextOf_102 (by decide) rfl ?_
      refine V.iload dX6_nextOf_104 rfl ?_
      refine V.if_eq (tgt := 113) dX6_nextOf_106 (by decide) (fun q => absurd q (by decide)) (fun _ => ?_)
      refine V.iconst (v := nI 0) dX6_nextOf_109 (by decide) ?_
      refine V.goto (tgt := 118) dX6_nextOf_110 (by decide) ?_
      refine V.ist12 dX6_nextOf_118 (by decide) rfl ?_
      refine V.iload dX6_nextOf_120 rfl ?_
      refine V.if_ne (tgt := 133) dX6_nextOf_122 (by decide) (fun c122 => ?_) (fun c122 => ?_)
      · refine V.aload_n dX6_nextOf_133 rfl ?_
        refine V.iload_n dX6_nextOf_134 rfl ?_
        refine V.iload dX6_nextOf_135 rfl ?_
        refine V.iload dX6_nextOf_137 rfl ?_
        refine V.iadd dX6_nextOf_139 ?_
        refine V.iload dX6_nextOf_140 rfl ?_
        refine V.iload dX6_nextOf_142 rfl ?_
        refine V.iadd dX6_nextOf_144 ?_
        refine V.callSv [_, _, _, _] dX6_nextOf_145 lk_X6_211 rfl (Nat.le_of_ble_eq_true rfl) (Nat.le_of_ble_eq_true rfl) (s6_canEnter _ _ _ _ _ _ (by assumption) _ _ _ (by omega)) ?_
        refine V.if_eqB (tgt := 166) dX6_nextOf_148 (by decide) (fun c148 => ?_) (fun c148 => ?_)
        · refine V.inN9 dX6_nextOf_166 (by decide) rfl ?_
          refine V.goto (tgt := 60) dX6_nextOf_169 (by decide) ?_
          refine V.iload dX6_nextOf_60 rfl ?_
          refine V.iconst (v := nI 2) dX6_nextOf_62 (by decide) ?_
          refine V.icmp_ge (tgt := 172) dX6_nextOf_63 (by decide) (fun _ => ?_) (fun q => absurd q (by decide))
          refine V.iload_n dX6_nextOf_172 rfl ?_
          exact V.iretP (by exact dX6_nextOf_173) rfl (by (try simp only [← Int32.not_le, Classical.not_not] at *); simp only [nxt, tX, tY, vX, vY, acr, dwn, rm, ← Int32.not_le, c47, eq_true c127, c122, c148, not_true_eq_false, not_false_eq_true, if_true, if_false, decide_true, decide_false, Bool.and_true, Bool.and_false, Bool.true_and, Bool.false_and, Bool.or_true, Bool.or_false, Bool.true_or, Bool.false_or, Bool.not_true, Bool.not_false, and_true, and_false, true_and, false_and, or_true, or_false, true_or, false_or, bIt, bIf, Bool.false_eq_true, reduceCtorEq]) rfl
        · refine V.bipush (v := nI 12) dX6_nextOf_151 (by decide) ?_
          refine V.iload dX6_nextOf_153 rfl ?_
          refine V.iload dX6_nextOf_155 rfl ?_
          refine V.iadd dX6_nextOf_157 ?_
          refine V.imul dX6_nextOf_158 ?_
          refine V.iload dX6_nextOf_159 rfl ?_
          refine V.iadd dX6_nextOf_161 ?_
          refine V.iload dX6_nextOf_162 rfl ?_
          refine V.iadd dX6_nextOf_164 ?_
          exact V.iretP (by exact dX6_nextOf_165) rfl (by (try simp only [← Int32.not_le, Classical.not_not] at *); simp only [nxt, tX, tY, vX, vY, acr, dwn, rm, ← Int32.not_le, c47, eq_true c127, c122, c148, not_true_eq_false, not_false_eq_true, if_true, if_false, decide_true, decide_false, Bool.and_true, Bool.and_false, Bool.true_and, Bool.false_and, Bool.or_true, Bool.or_false, Bool.true_or, Bool.false_or, Bool.not_true, Bool.not_false, and_true, and_false, true_and, false_and, or_true, or_false, true_or, false_or, bIt, bIf, Bool.false_eq_true, reduceCtorEq]) rfl
      · refine V.iload dX6_nextOf_125 rfl ?_
        refine V.if_ne (tgt := 133) dX6_nextOf_127 (by decide) (fun q => absurd q (by decide)) (fun _ => ?_)
        refine V.goto (tgt := 166) dX6_nextOf_130 (by decide) ?_
        refine V.inN9 dX6_nextOf_166 (by decide) rfl ?_
        refine V.goto (tgt := 60) dX6_nextOf_169 (by decide) ?_
        refine V.iload dX6_nextOf_60 rfl ?_
        refine V.iconst (v := nI 2) dX6_nextOf_62 (by decide) ?_
        refine V.icmp_ge (tgt := 172) dX6_nextOf_63 (by decide) (fun _ => ?_) (fun q => absurd q (by decide))
        refine V.iload_n dX6_nextOf_172 rfl ?_
        exact V.iretP (by exact dX6_nextOf_173) rfl (by (try simp only [← Int32.not_le, Classical.not_not] at *); simp only [nxt, tX, tY, vX, vY, acr, dwn, rm, ← Int32.not_le, c47, eq_true c127, eq_true c122, not_true_eq_false, not_false_eq_true, if_true, if_false, decide_true, decide_false, Bool.and_true, Bool.and_false, Bool.true_and, Bool.false_and, Bool.or_true, Bool.or_false, Bool.true_or, Bool.false_or, Bool.not_true, Bool.not_false, and_true, and_false, true_and, false_and, or_true, or_false, true_or, false_or, bIt, bIf, Bool.false_eq_true, reduceCtorEq]) rfl
  · refine V.iconst (v := nI 1) dX6_nextOf_50 (by decide) ?_
    refine V.goto (tgt := 55) dX6_nextOf_51 (by decide) ?_
    refine V.ist8 dX6_nextOf_55 (by decide) rfl ?_
    refine V.iconst (v := nI 0) dX6_nextOf_57 (by decide) ?_
    refine V.ist9 dX6_nextOf_58 (by decide) rfl ?_
    refine V.iload dX6_nextOf_60 rfl ?_
    refine V.iconst (v := nI 2) dX6_nextOf_62 (by decide) ?_
    refine V.icmp_ge (tgt := 172) dX6_nextOf_63 (by decide) (fun q => absurd q (by decide)) (fun _ => ?_)
    refine V.iload dX6_nextOf_66 rfl ?_
    refine V.iload dX6_nextOf_68 rfl ?_
    refine V.if_ne (tgt := 77) dX6_nextOf_70 (by decide) (fun q => absurd q (by decide)) (fun _ => ?_)
    refine V.iconst (v := nI 1) dX6_nextOf_73 (by decide) ?_
    refine V.goto (tgt := 78) dX6_nextOf_74 (by decide) ?_
    refine V.icmp_ne (tgt := 85) dX6_nextOf_78 (by decide) (fun q => absurd q (by decide)) (fun _ => ?_)
    refine V.iconst (v := nI 1) dX6_nextOf_81 (by decide) ?_
    refine V.goto (tgt := 86) dX6_nextOf_82 (by decide) ?_
    refine V.ist10 dX6_nextOf_86 (by decide) rfl ?_
    refine V.iload dX6_nextOf_88 rfl ?_
    refine V.if_eq (tgt := 101) dX6_nextOf_90 (by decide) (fun q => absurd q (by decide)) (fun _ => ?_)
    refine V.iload dX6_nextOf_93 rfl ?_
    refine V.callSv [_] dX6_nextOf_95 lk_X6_208 rfl (Nat.le_of_ble_eq_true rfl) (Nat.le_of_ble_eq_true rfl) (s6_signOf _ _ _ _ _) ?_
    refine V.goto (tgt := 102) dX6_nextOf_98 (by decide) ?_
    refine V.ist11 dX6_nextOf_102 (by decide) rfl ?_
    refine V.iload dX6_nextOf_104 rfl ?_
    refine V.if_eq (tgt := 113) dX6_nextOf_106 (by decide) (fun q => absurd q (by decide)) (fun _ => ?_)
    refine V.iconst (v := nI 0) dX6_nextOf_109 (by decide) ?_
    refine V.goto (tgt := 118) dX6_nextOf_110 (by decide) ?_
    refine V.ist12 dX6_nextOf_118 (by decide) rfl ?_
    refine V.iload dX6_nextOf_120 rfl ?_
    refine V.if_ne (tgt := 133) dX6_nextOf_122 (by decide) (fun c122 => ?_) (fun c122 => ?_)
    · refine V.aload_n dX6_nextOf_133 rfl ?_
      refine V.iload_n dX6_nextOf_134 rfl ?_
      refine V.iload dX6_nextOf_135 rfl ?_
      refine V.iload dX6_nextOf_137 rfl ?_
      refine V.iadd dX6_nextOf_139 ?_
      refine V.iload dX6_nextOf_140 rfl ?_
      refine V.iload dX6_nextOf_142 rfl ?_
      refine V.iadd dX6_nextOf_144 ?_
      refine V.callSv [_, _, _, _] dX6_nextOf_145 lk_X6_211 rfl (Nat.le_of_ble_eq_true rfl) (Nat.le_of_ble_eq_true rfl) (s6_canEnter _ _ _ _ _ _ (by assumption) _ _ _ (by omega)) ?_
      refine V.if_eqB (tgt := 166) dX6_nextOf_148 (by decide) (fun c148 => ?_) (fun c148 => ?_)
      · refine V.inN9 dX6_nextOf_166 (by decide) rfl ?_
        refine V.goto (tgt := 60) dX6_nextOf_169 (by decide) ?_
        refine V.iload dX6_nextOf_60 rfl ?_
        refine V.iconst (v := nI 2) dX6_nextOf_62 (by decide) ?_
        refine V.icmp_ge (tgt := 172) dX6_nextOf_63 (by decide) (fun q => absurd q (by decide)) (fun _ => ?_)
        refine V.iload dX6_nextOf_66 rfl ?_
        refine V.iload dX6_nextOf_68 rfl ?_
        refine V.if_ne (tgt := 77) dX6_nextOf_70 (by decide) (fun _ => ?_) (fun q => absurd q (by decide))
        refine V.iconst (v := nI 0) dX6_nextOf_77 (by decide) ?_
        refine V.icmp_ne (tgt := 85) dX6_nextOf_78 (by decide) (fun _ => ?_) (fun q => absurd q (by decide))
        refine V.iconst (v := nI 0) dX6_nextOf_85 (by decide) ?_
        refine V.ist10 dX6_nextOf_86 (by decide) rfl ?_
        refine V.iload dX6_nextOf_88 rfl ?_
        refine V.if_eq (tgt := 101) dX6_nextOf_90 (by decide) (fun _ => ?_) (fun q => absurd q (by decide))
        refine V.iconst (v := nI 0) dX6_nextOf_101 (by decide) ?_
        refine V.ist11 dX6_nextOf_102 (by decide) rfl ?_
        refine V.iload dX6_nextOf_104 rfl ?_
        refine V.if_eq (tgt := 113) dX6_nextOf_106 (by decide) (fun _ => ?_) (fun q => absurd q (by decide))
        refine V.iload dX6_nextOf_113 rfl ?_
        refine V.callSv [_] dX6_nextOf_115 lk_X6_208 rfl (Nat.le_of_ble_eq_true rfl) (Nat.le_of_ble_eq_true rfl) (s6_signOf _ _ _ _ _) ?_
        refine V.ist12 dX6_nextOf_118 (by decide) rfl ?_
        refine V.iload dX6_nextOf_120 rfl ?_
        refine V.if_ne (tgt := 133) dX6_nextOf_122 (by decide) (fun q => absurd q (by decide)) (fun _ => ?_)
        refine V.iload dX6_nextOf_125 rfl ?_
        refine V.if_ne (tgt := 133) dX6_nextOf_127 (by decide) (fun c127 => ?_) (fun c127 => ?_)
        · refine V.aload_n dX6_nextOf_133 rfl ?_
          refine V.iload_n dX6_nextOf_134 rfl ?_
          refine V.iload dX6_nextOf_135 rfl ?_
          refine V.iload dX6_nextOf_137 rfl ?_
          refine V.iadd dX6_nextOf_139 ?_
          refine V.iload dX6_nextOf_140 rfl ?_
          refine V.iload dX6_nextOf_142 rfl ?_
          refine V.iadd dX6_nextOf_144 ?_
          refine V.callSv [_, _, _, _] dX6_nextOf_145 lk_X6_211 rfl (Nat.le_of_ble_eq_true rfl) (Nat.le_of_ble_eq_true rfl) (s6_canEnter _ _ _ _ _ _ (by assumption) _ _ _ (by omega)) ?_
          refine V.if_eqB (tgt := 166) dX6_nextOf_148 (by decide) (fun c148x => ?_) (fun c148x => ?_)
          · refine V.inN9 dX6_nextOf_166 (by decide) rfl ?_
            refine V.goto (tgt := 60) dX6_nextOf_169 (by decide) ?_
            refine V.iload dX6_nextOf_60 rfl ?_
            refine V.iconst (v := nI 2) dX6_nextOf_62 (by decide) ?_
            refine V.icmp_ge (tgt := 172) dX6_nextOf_63 (by decide) (fun _ => ?_) (fun q => absurd q (by decide))
            refine V.iload_n dX6_nextOf_172 rfl ?_
            exact V.iretP (by exact dX6_nextOf_173) rfl (by (try simp only [← Int32.not_le, Classical.not_not] at *); simp only [nxt, tX, tY, vX, vY, acr, dwn, rm, ← Int32.not_le, c47, c122, c148, c127, c148x, not_true_eq_false, not_false_eq_true, if_true, if_false, decide_true, decide_false, Bool.and_true, Bool.and_false, Bool.true_and, Bool.false_and, Bool.or_true, Bool.or_false, Bool.true_or, Bool.false_or, Bool.not_true, Bool.not_false, and_true, and_false, true_and, false_and, or_true, or_false, true_or, false_or, bIt, bIf, Bool.false_eq_true, reduceCtorEq]) rfl
          · refine V.bipush (v := nI 12) dX6_nextOf_151 (by decide) ?_
            refine V.iload dX6_nextOf_153 rfl ?_
            refine V.iload dX6_nextOf_155 rfl ?_
            refine V.iadd dX6_nextOf_157 ?_
            refine V.imul dX6_nextOf_158 ?_
            refine V.iload dX6_nextOf_159 rfl ?_
            refine V.iadd dX6_nextOf_161 ?_
            refine V.iload dX6_nextOf_162 rfl ?_
            refine V.iadd dX6_nextOf_164 ?_
            exact V.iretP (by exact dX6_nextOf_165) rfl (by (try simp only [← Int32.not_le, Classical.not_not] at *); simp only [nxt, tX, tY, vX, vY, acr, dwn, rm, ← Int32.not_le, c47, c122, c148, c127, c148x, not_true_eq_false, not_false_eq_true, if_true, if_false, decide_true, decide_false, Bool.and_true, Bool.and_false, Bool.true_and, Bool.false_and, Bool.or_true, Bool.or_false, Bool.true_or, Bool.false_or, Bool.not_true, Bool.not_false, and_true, and_false, true_and, false_and, or_true, or_false, true_or, false_or, bIt, bIf, Bool.false_eq_true, reduceCtorEq]) rfl
        · refine V.goto (tgt := 166) dX6_nextOf_130 (by decide) ?_
          refine V.inN9 dX6_nextOf_166 (by decide) rfl ?_
          refine V.goto (tgt := 60) dX6_nextOf_169 (by decide) ?_
          refine V.iload dX6_nextOf_60 rfl ?_
          refine V.iconst (v := nI 2) dX6_nextOf_62 (by decide) ?_
          refine V.icmp_ge (tgt := 172) dX6_nextOf_63 (by decide) (fun _ => ?_) (fun q => absurd q (by decide))
          refine V.iload_n dX6_nextOf_172 rfl ?_
          exact V.iretP (by exact dX6_nextOf_173) rfl (by (try simp only [← Int32.not_le, Classical.not_not] at *); simp only [nxt, tX, tY, vX, vY, acr, dwn, rm, ← Int32.not_le, c47, c122, c148, eq_true c127, not_true_eq_false, not_false_eq_true, if_true, if_false, decide_true, decide_false, Bool.and_true, Bool.and_false, Bool.true_and, Bool.false_and, Bool.or_true, Bool.or_false, Bool.true_or, Bool.false_or, Bool.not_true, Bool.not_false, and_true, and_false, true_and, false_and, or_true, or_false, true_or, false_or, bIt, bIf, Bool.false_eq_true, reduceCtorEq]) rfl
      · refine V.bipush (v := nI 12) dX6_nextOf_151 (by decide) ?_
        refine V.iload dX6_nextOf_153 rfl ?_
        refine V.iload dX6_nextOf_155 rfl ?_
        refine V.iadd dX6_nextOf_157 ?_
        refine V.imul dX6_nextOf_158 ?_
        refine V.iload dX6_nextOf_159 rfl ?_
        refine V.iadd dX6_nextOf_161 ?_
        refine V.iload dX6_nextOf_162 rfl ?_
        refine V.iadd dX6_nextOf_164 ?_
        exact V.iretP (by exact dX6_nextOf_165) rfl (by (try simp only [← Int32.not_le, Classical.not_not] at *); simp only [nxt, tX, tY, vX, vY, acr, dwn, rm, ← Int32.not_le, c47, c122, c148, not_true_eq_false, not_false_eq_true, if_true, if_false, decide_true, decide_false, Bool.and_true, Bool.and_false, Bool.true_and, Bool.false_and, Bool.or_true, Bool.or_false, Bool.true_or, Bool.false_or, Bool.not_true, Bool.not_false, and_true, and_false, true_and, false_and, or_true, or_false, true_or, false_or, bIt, bIf, Bool.false_eq_true, reduceCtorEq]) rfl
    · refine V.iload dX6_nextOf_125 rfl ?_
      refine V.if_ne (tgt := 133) dX6_nextOf_127 (by decide) (fun q => absurd q (by decide)) (fun _ => ?_)
      refine V.goto (tgt := 166) dX6_nextOf_130 (by decide) ?_
      refine V.inN9 dX6_nextOf_166 (by decide) rfl ?_
      refine V.goto (tgt := 60) dX6_nextOf_169 (by decide) ?_
      refine V.iload dX6_nextOf_60 rfl ?_
      refine V.iconst (v := nI 2) dX6_nextOf_62 (by decide) ?_
      refine V.icmp_ge (tgt := 172) dX6_nextOf_63 (by decide) (fun q => absurd q (by decide)) (fun _ => ?_)
      refine V.iload dX6_nextOf_66 rfl ?_
      refine V.iload dX6_nextOf_68 rfl ?_
      refine V.if_ne (tgt := 77) dX6_nextOf_70 (by decide) (fun _ => ?_) (fun q => absurd q (by decide))
      refine V.iconst (v := nI 0) dX6_nextOf_77 (by decide) ?_
      refine V.icmp_ne (tgt := 85) dX6_nextOf_78 (by decide) (fun _ => ?_) (fun q => absurd q (by decide))
      refine V.iconst (v := nI 0) dX6_nextOf_85 (by decide) ?_
      refine V.ist10 dX6_nextOf_86 (by decide) rfl ?_
      refine V.iload dX6_nextOf_88 rfl ?_
      refine V.if_eq (tgt := 101) dX6_nextOf_90 (by decide) (fun _ => ?_) (fun q => absurd q (by decide))
      refine V.iconst (v := nI 0) dX6_nextOf_101 (by decide) ?_
      refine V.ist11 dX6_nextOf_102 (by decide) rfl ?_
      refine V.iload dX6_nextOf_104 rfl ?_
      refine V.if_eq (tgt := 113) dX6_nextOf_106 (by decide) (fun _ => ?_) (fun q => absurd q (by decide))
      refine V.iload dX6_nextOf_113 rfl ?_
      refine V.callSv [_] dX6_nextOf_115 lk_X6_208 rfl (Nat.le_of_ble_eq_true rfl) (Nat.le_of_ble_eq_true rfl) (s6_signOf _ _ _ _ _) ?_
      refine V.ist12 dX6_nextOf_118 (by decide) rfl ?_
      refine V.iload dX6_nextOf_120 rfl ?_
      refine V.if_ne (tgt := 133) dX6_nextOf_122 (by decide) (fun q => absurd q (by decide)) (fun _ => ?_)
      refine V.iload dX6_nextOf_125 rfl ?_
      refine V.if_ne (tgt := 133) dX6_nextOf_127 (by decide) (fun c127 => ?_) (fun c127 => ?_)
      · refine V.aload_n dX6_nextOf_133 rfl ?_
        refine V.iload_n dX6_nextOf_134 rfl ?_
        refine V.iload dX6_nextOf_135 rfl ?_
        refine V.iload dX6_nextOf_137 rfl ?_
        refine V.iadd dX6_nextOf_139 ?_
        refine V.iload dX6_nextOf_140 rfl ?_
        refine V.iload dX6_nextOf_142 rfl ?_
        refine V.iadd dX6_nextOf_144 ?_
        refine V.callSv [_, _, _, _] dX6_nextOf_145 lk_X6_211 rfl (Nat.le_of_ble_eq_true rfl) (Nat.le_of_ble_eq_true rfl) (s6_canEnter _ _ _ _ _ _ (by assumption) _ _ _ (by omega)) ?_
        refine V.if_eqB (tgt := 166) dX6_nextOf_148 (by decide) (fun c148 => ?_) (fun c148 => ?_)
        · refine V.inN9 dX6_nextOf_166 (by decide) rfl ?_
          refine V.goto (tgt := 60) dX6_nextOf_169 (by decide) ?_
          refine V.iload dX6_nextOf_60 rfl ?_
          refine V.iconst (v := nI 2) dX6_nextOf_62 (by decide) ?_
          refine V.icmp_ge (tgt := 172) dX6_nextOf_63 (by decide) (fun _ => ?_) (fun q => absurd q (by decide))
          refine V.iload_n dX6_nextOf_172 rfl ?_
          exact V.iretP (by exact dX6_nextOf_173) rfl (by (try simp only [← Int32.not_le, Classical.not_not] at *); simp only [nxt, tX, tY, vX, vY, acr, dwn, rm, ← Int32.not_le, c47, eq_true c122, c127, c148, not_true_eq_false, not_false_eq_true, if_true, if_false, decide_true, decide_false, Bool.and_true, Bool.and_false, Bool.true_and, Bool.false_and, Bool.or_true, Bool.or_false, Bool.true_or, Bool.false_or, Bool.not_true, Bool.not_false, and_true, and_false, true_and, false_and, or_true, or_false, true_or, false_or, bIt, bIf, Bool.false_eq_true, reduceCtorEq]) rfl
        · refine V.bipush (v := nI 12) dX6_nextOf_151 (by decide) ?_
          refine V.iload dX6_nextOf_153 rfl ?_
          refine V.iload dX6_nextOf_155 rfl ?_
          refine V.iadd dX6_nextOf_157 ?_
          refine V.imul dX6_nextOf_158 ?_
          refine V.iload dX6_nextOf_159 rfl ?_
          refine V.iadd dX6_nextOf_161 ?_
          refine V.iload dX6_nextOf_162 rfl ?_
          refine V.iadd dX6_nextOf_164 ?_
          exact V.iretP (by exact dX6_nextOf_165) rfl (by (try simp only [← Int32.not_le, Classical.not_not] at *); simp only [nxt, tX, tY, vX, vY, acr, dwn, rm, ← Int32.not_le, c47, eq_true c122, c127, c148, not_true_eq_false, not_false_eq_true, if_true, if_false, decide_true, decide_false, Bool.and_true, Bool.and_false, Bool.true_and, Bool.false_and, Bool.or_true, Bool.or_false, Bool.true_or, Bool.false_or, Bool.not_true, Bool.not_false, and_true, and_false, true_and, false_and, or_true, or_false, true_or, false_or, bIt, bIf, Bool.false_eq_true, reduceCtorEq]) rfl
      · refine V.goto (tgt := 166) dX6_nextOf_130 (by decide) ?_
        refine V.inN9 dX6_nextOf_166 (by decide) rfl ?_
        refine V.goto (tgt := 60) dX6_nextOf_169 (by decide) ?_
        refine V.iload dX6_nextOf_60 rfl ?_
        refine V.iconst (v := nI 2) dX6_nextOf_62 (by decide) ?_
        refine V.icmp_ge (tgt := 172) dX6_nextOf_63 (by decide) (fun _ => ?_) (fun q => absurd q (by decide))
        refine V.iload_n dX6_nextOf_172 rfl ?_
        exact V.iretP (by exact dX6_nextOf_173) rfl (by (try simp only [← Int32.not_le, Classical.not_not] at *); simp only [nxt, tX, tY, vX, vY, acr, dwn, rm, ← Int32.not_le, c47, eq_true c122, eq_true c127, not_true_eq_false, not_false_eq_true, if_true, if_false, decide_true, decide_false, Bool.and_true, Bool.and_false, Bool.true_and, Bool.false_and, Bool.or_true, Bool.or_false, Bool.true_or, Bool.false_or, Bool.not_true, Bool.not_false, and_true, and_false, true_and, false_and, or_true, or_false, true_or, false_or, bIt, bIf, Bool.false_eq_true, reduceCtorEq]) rfl
