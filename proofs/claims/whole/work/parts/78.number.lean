/-- the number of so many digits -/
def nuV (B : Nat → Int32) (a : Nat) : Nat → Nat
  | 0 => 0
  | k + 1 => 10 * nuV B a k + dgt B 48 (a + k)
def nmP (B : Nat → Int32) (N p : Nat) : Nat := if inB B N p 48 57 = true then (if dgt B 48 p = 0 then p + 1 else if inB B N (p + 1) 48 57 = true then (if inB B N (p + 2) 48 57 = true then p + 3 else p + 2) else p + 1) else p
/-- signs one after the other, and then -/
def run (B : Nat → Int32) (N : Nat) : List (Nat × Nat) → Nat → (Nat → Bool × Nat) → Bool × Nat
  | [], p, k => k p
  | a :: r, p, k => if inB B N p a.1 a.2 = true then run B N r (p + 1) k else (false, p)
theorem run_y {B : Nat → Int32} {N p lo hi : Nat} {r : List (Nat × Nat)} {k : Nat → Bool × Nat} (h : inB B N p lo hi = true) : run B N ((lo, hi) :: r) p k = run B N r (p + 1) k := if_pos h
theorem run_n {B : Nat → Int32} {N p lo hi : Nat} {r : List (Nat × Nat)} {k : Nat → Bool × Nat} (h : inB B N p lo hi = false) : run B N ((lo, hi) :: r) p k = (false, p) := if_neg (by rw [h]; decide)
theorem run_cy {B : Nat → Int32} {N p : Nat} {r : List (Nat × Nat)} {k : Nat → Bool × Nat} (h : clO B N p = true) : run B N ((97, 108) :: (48, 54) :: r) p k = run B N r (p + 1 + 1) k := by
  rw [clO, Bool.and_eq_true] at h
  rw [run_y h.1, run_y h.2]
theorem run_cn {B : Nat → Int32} {N p : Nat} {r : List (Nat × Nat)} {k : Nat → Bool × Nat} (h : clO B N p = false) : run B N ((97, 108) :: (48, 54) :: r) p k = (false, clP B N p) := by
  rw [clO] at h
  unfold clP
  cases q : inB B N p 97 108 with
  | false => rw [run_n q, if_neg (by decide)]
  | true =>
    rw [q, Bool.true_and] at h
    rw [run_y q, run_n h, h, if_pos rfl, if_neg (by decide)]
theorem clP_y {B : Nat → Int32} {N p : Nat} (h : clO B N p = true) : clP B N p = p + 1 + 1 := by
  rw [clO, Bool.and_eq_true] at h
  rw [clP, if_pos h.1, if_pos h.2]
/-- a row's byte as a letter -/
def ltr (B : Nat → Int32) (N p : Nat) : Nat := if p < N then (B p).toNatClampNeg else 0
def fin1 (p : Nat) : Bool × Nat := (true, p)
/-- whether a statement begins here, and where its reading stops -/
def stR (B : Nat → Int32) (N p : Nat) : Bool × Nat :=
  if ltr B N p = 103 then run B N [(48, 57), (97, 108), (48, 54)] (p + 1) (fun q => if inB B N q 97 108 = true then run B N [(97, 108), (48, 54), (59, 59)] q fin1 else run B N [(59, 59)] q fin1)
  else if ltr B N p = 114 ∨ ltr B N p = 101 ∨ ltr B N p = 102 ∨ ltr B N p = 108 then run B N [(48, 57), (59, 59)] (p + 1) fin1
  else if ltr B N p = 116 ∨ ltr B N p = 104 then (if inB B N (p + 1) 48 57 = true then run B N [(59, 59)] (nmP B N (p + 1)) fin1 else (false, p + 1))
  else if ltr B N p = 112 then run B N [(48, 57), (48, 57), (48, 57), (97, 108), (48, 54), (59, 59)] (p + 1) fin1
  else if ltr B N p = 99 then run B N [(48, 57), (48, 57), (48, 57), (48, 57), (59, 59)] (p + 1) fin1
  else (false, p)
/-- its numbers, if its end is there -/
def nbs (B : Nat → Int32) (c p e : Nat) (j : Nat) : Nat :=
  if c = 103 then (if j = 0 then dgt B 48 (p + 1) else if j = 1 then ce B (p + 2) else ce B (e - 3))
  else if c = 116 ∨ c = 104 then nuV B (p + 1) (e - 2 - p)
  else if c = 112 ∧ j = 3 then ce B (p + 4)
  else dgt B 48 (p + 1 + j)
theorem ltr_in {B : Nat → Int32} {N p j : Nat} (h1 : 0 < j) (h2 : j < 1000) (h : hb B N p = nI j) : p < N ∧ ltr B N p = j := by
  have q := inB_ex (lo := j) (hi := j) h2 h2 ((hb_eq h2).mp h)
  refine ⟨q.1, ?_⟩
  rw [ltr, if_pos q.1]
  rw [hb, if_pos q.1] at h
  rw [h, clampI (by omega)]
theorem ltr_out {B : Nat → Int32} {N p : Nat} (h : (hb B N p).toInt < (99 : Nat) ∨ ((116 : Nat) : Int) < (hb B N p).toInt) : ltr B N p < 99 ∨ 116 < ltr B N p := by
  unfold ltr hb at *
  by_cases q : p < N
  · rw [if_pos q] at h ⊢
    rw [Int32.toNatClampNeg]
    omega
  · rw [if_neg q]; omega
theorem nI_all (x : Int32) : nI x.toUInt32.toNat = x := by
  rw [nI]
  apply Int32.toBitVec_inj.mp
  simp
set_option maxRecDepth 20000 in
set_option maxHeartbeats 4000000 in
theorem s6_readsNumber (l : Launch) (d : Nat) (h : MH) (n : Nat) (b0 : Bool) (th : Int32) (i N : Nat) (hi : i < 8) (hN : N ≤ 100) (X : Nat → Int32) (hx : h 86 = some (ia 800 X)) (B : Nat → Int32) (hB : ∀ k, k < 100 → B k = X (100 * i + k)) (p t : Nat) (NB : Nat → Int32) (hp : p < 1000) (ht : t < 6) : Sp l mX6_readsNumber (d + 3) [.ref 78] (RH h b0 th i N p t NB) n 0 0 (Rq h b0 th i N (inB B N p 48 57) (nmP B N p) (Tl NB t (nuV B p (nmP B N p - p))) n) := by
  show V _ _ _ _ [some (.ref 78), none] _ _ _ _ _ _
  have ex : ∀ (k : Nat) (NB1 : Nat → Int32) (l1 : Option Value), inB B N p 48 57 = true → nmP B N p = p + k → NB1 t = nI (nuV B p k) → (∀ j, j < t → NB1 j = NB j) → V l mX6_readsNumber (d + 3) 96 [some (.ref 78), l1] [] (RH h b0 th i N (p + k) (t + 1) NB1) n 0 0 (Rq h b0 th i N (inB B N p 48 57) (nmP B N p) (Tl NB t (nuV B p (nmP B N p - p))) n) := fun k NB1 l1 a1 a2 a3 a4 => by
    rw [a1, a2, show p + k - p = k by omega]
    refine V.iconst (v := nI 1) dX6_readsNumber_96 (by decide) ?_
    exact V.iret (by exact dX6_readsNumber_97) rfl (bI_narrow true) ⟨rfl, rfl, t + 1, NB1, rfl, fun _ => ⟨rfl, a3, a4⟩⟩
  refine V.aload_n dX6_readsNumber_0 rfl ?_
  refine V.callRq [] dX6_readsNumber_1 lk_X6_110 rfl (Nat.le_of_ble_eq_true rfl) (Nat.le_of_ble_eq_true rfl) rfl (s6_readsDigit l _ h n b0 th i N hi hN X hx B hB p t NB hp ht) (fun t1 NB1 g => ?_)
  refine V.if_neB (tgt := 9) dX6_readsNumber_4 (by decide) (fun q => ?_) (fun q => ?_)
  rotate_left
  · rw [show nmP B N p = p from by (rw [nmP, q]; rfl), q, if_neg (by decide)]
    refine V.iconst (v := nI 0) dX6_readsNumber_7 (by decide) ?_
    exact V.iret (by exact dX6_readsNumber_8) rfl (bI_narrow false) ⟨rfl, rfl, t1, NB1, rfl, fun y => by cases y⟩
  obtain ⟨rfl, g1, g2⟩ := g q
  have hd0 := (inB_ex (by omega) (by omega) q).2.2.2
  have hpN := (inB_ex (by omega) (by omega) q).1
  have u1 : nuV B p 1 = dgt B 48 p := by rw [nuV, nuV]; simp
  rw [if_pos q]
  refine V.iconst (v := nI 1) dX6_readsNumber_9 (by decide) ?_
  refine V.ist1 dX6_readsNumber_10 (by decide) rfl ?_
  rw [← u1] at g1
  refine V.iload_n dX6_readsNumber_11 rfl ?_
  refine V.iconst (v := nI 3) dX6_readsNumber_12 (by decide) ?_
  refine V.icmp_geN (tgt := 96) dX6_readsNumber_13 (by decide) (by omega) (by omega) (fun q => absurd q (by omega)) (fun _ => ?_)
  refine V.aload_n dX6_readsNumber_16 rfl ?_
  refine V.getf dX6_readsNumber_17 fl_X6_40 (RH_78 _ _ _ _ _ _ _ _) rfl ?_
  refine V.aload_n dX6_readsNumber_20 rfl ?_
  refine V.getf dX6_readsNumber_21 fl_X6_103 (RH_78 _ _ _ _ _ _ _ _) rfl ?_
  refine V.iconst (v := nI 1) dX6_readsNumber_24 (by decide) ?_
  refine V.isubN dX6_readsNumber_25 (by omega) ?_
  rw [show t + 1 - 1 = t by omega]
  refine V.ialdN dX6_readsNumber_26 (RH_89 _ _ _ _ _ _ _ _) (by omega) (by decide) ?_
  rw [g1]
  refine V.if_le (tgt := 96) dX6_readsNumber_27 (by decide) (fun z => ?_) (fun z => ?_)
  · have z0 : nuV B p 1 ≤ 0 := (nI_leI (a := nuV B p 1) (b := 0) (by omega) (by omega)).mp z
    exact ex 1 NB1 _ q (by rw [nmP, q, if_pos rfl, if_pos (by omega)]) g1 g2
  have z0 : ¬ nuV B p 1 = 0 := fun y => z (by rw [y]; exact Int32.le_refl _)
  refine V.aload_n dX6_readsNumber_30 rfl ?_
  refine V.callVv [] dX6_readsNumber_31 lk_X6_99 rfl (Nat.le_of_ble_eq_true rfl) (Nat.le_of_ble_eq_true rfl) (RH_78 _ _ _ _ _ _ _ _) rfl (s6_here l _ h n b0 th i N hi hN X hx B hB (p + 1) _ _ (by omega)) ?_
  refine V.i2l dX6_readsNumber_34 ?_
  refine V.ldc2 dX6_readsNumber_35 cn_X6_114 ?_
  refine V.ldc2 dX6_readsNumber_38 cn_X6_116 ?_
  refine V.callSv [_, _, _] dX6_readsNumber_41 lk_X6_62 rfl (Nat.le_of_ble_eq_true rfl) (Nat.le_of_ble_eq_true rfl) (s6_isInC _ _ _ (nI 48) (nI 57) (by decide) (by decide) _ _) ?_
  rw [hb_in B N _ (by omega)]
  refine V.if_eqB (tgt := 96) dX6_readsNumber_44 (by decide) (fun y1 => ?_) (fun y1 => ?_)
  · exact ex 1 NB1 _ q (by rw [nmP, q, if_pos rfl, if_neg (by omega), y1, if_neg (by decide)]) g1 g2
  obtain ⟨w1, w2, w3, w4⟩ := inB_ex (by omega) (by omega) y1
  have u2 : nuV B p 2 = 10 * nuV B p 1 + dgt B 48 (p + 1) := by rw [nuV]
  refine V.aload_n dX6_readsNumber_47 rfl ?_
  refine V.getf dX6_readsNumber_48 fl_X6_40 (RH_78 _ _ _ _ _ _ _ _) rfl ?_
  refine V.aload_n dX6_readsNumber_51 rfl ?_
  refine V.getf dX6_readsNumber_52 fl_X6_103 (RH_78 _ _ _ _ _ _ _ _) rfl ?_
  refine V.iconst (v := nI 1) dX6_readsNumber_55 (by decide) ?_
  refine V.isubN dX6_readsNumber_56 (by omega) ?_
  rw [show t + 1 - 1 = t by omega]
  refine V.bipush (v := nI 10) dX6_readsNumber_57 (by decide) ?_
  refine V.aload_n dX6_readsNumber_59 rfl ?_
  refine V.getf dX6_readsNumber_60 fl_X6_40 (RH_78 _ _ _ _ _ _ _ _) rfl ?_
  refine V.aload_n dX6_readsNumber_63 rfl ?_
  refine V.getf dX6_readsNumber_64 fl_X6_103 (RH_78 _ _ _ _ _ _ _ _) rfl ?_
  refine V.iconst (v := nI 1) dX6_readsNumber_67 (by decide) ?_
  refine V.isubN dX6_readsNumber_68 (by omega) ?_
  rw [show t + 1 - 1 = t by omega]
  refine V.ialdN dX6_readsNumber_69 (RH_89 _ _ _ _ _ _ _ _) (by omega) (by decide) ?_
  rw [g1]
  refine V.imulN dX6_readsNumber_70 ?_
  refine V.aload_n dX6_readsNumber_71 rfl ?_
  refine V.callVv [] dX6_readsNumber_72 lk_X6_99 rfl (Nat.le_of_ble_eq_true rfl) (Nat.le_of_ble_eq_true rfl) (RH_78 _ _ _ _ _ _ _ _) rfl (s6_here l _ h n b0 th i N hi hN X hx B hB (p + 1) _ _ (by omega)) ?_
  rw [w2]
  refine V.iaddN dX6_readsNumber_75 ?_
  refine V.bipush (v := nI 48) dX6_readsNumber_76 (by decide) ?_
  refine V.isubN dX6_readsNumber_78 (by omega) ?_
  rw [show 10 * nuV B p 1 + (48 + dgt B 48 (p + 1)) - 48 = nuV B p 2 by omega]
  refine V.iastN dX6_readsNumber_79 (RH_89 _ _ _ _ _ _ _ _) (by omega) (by decide) ?_
  change V _ _ _ _ _ _ (hset (RH h b0 th i N (p + 1) (t + 1) NB1) 89 (ia 6 (upd NB1 t (nI (nuV B p 2))))) _ _ _ _
  rw [RH_s89]
  refine V.aload_n dX6_readsNumber_80 rfl ?_
  refine V.dup dX6_readsNumber_81 rfl ?_
  refine V.getf dX6_readsNumber_82 fl_X6_90 (RH_78 _ _ _ _ _ _ _ _) rfl ?_
  refine V.iconst (v := nI 1) dX6_readsNumber_85 (by decide) ?_
  refine V.iaddN dX6_readsNumber_86 ?_
  refine V.putf dX6_readsNumber_87 fp_X6_90 (RH_78 _ _ _ _ _ _ _ _) (Nat.le_of_ble_eq_true rfl) (fun _ => ⟨rfl, rfl⟩) ?_
  change V _ _ _ _ _ _ (hset (RH h b0 th i N (p + 1) (t + 1) (upd NB1 t (nI (nuV B p 2)))) 78 (.inr (6, moF b0 th (nI (p + 1 + 1)) (nI (100 * i)) (nI N) (nI (t + 1))))) _ _ _ _
  rw [RH_s78]
  refine V.inN1 dX6_readsNumber_90 (by decide) rfl ?_
  refine V.goto (tgt := 11) dX6_readsNumber_93 (by decide) ?_
  generalize hNB2 : upd NB1 t (nI (nuV B p 2)) = NB2
  have g3 : NB2 t = nI (nuV B p 2) := by rw [← hNB2, pk_us]
  have g4 : ∀ j, j < t → NB2 j = NB j := fun j hj => by rw [← hNB2, pk_un (by omega), g2 j hj]
  rw [show p + 1 + 1 = p + 2 by omega]
  refine V.iload_n dX6_readsNumber_11 rfl ?_
  refine V.iconst (v := nI 3) dX6_readsNumber_12 (by decide) ?_
  refine V.icmp_geN (tgt := 96) dX6_readsNumber_13 (by decide) (by omega) (by omega) (fun q => absurd q (by omega)) (fun _ => ?_)
  refine V.aload_n dX6_readsNumber_16 rfl ?_
  refine V.getf dX6_readsNumber_17 fl_X6_40 (RH_78 _ _ _ _ _ _ _ _) rfl ?_
  refine V.aload_n dX6_readsNumber_20 rfl ?_
  refine V.getf dX6_readsNumber_21 fl_X6_103 (RH_78 _ _ _ _ _ _ _ _) rfl ?_
  refine V.iconst (v := nI 1) dX6_readsNumber_24 (by decide) ?_
  refine V.isubN dX6_readsNumber_25 (by omega) ?_
  rw [show t + 1 - 1 = t by omega]
  refine V.ialdN dX6_readsNumber_26 (RH_89 _ _ _ _ _ _ _ _) (by omega) (by decide) ?_
  rw [g3]
  refine V.if_le (tgt := 96) dX6_readsNumber_27 (by decide) (fun z => absurd ((nI_leI (a := nuV B p 2) (b := 0) (by omega) (by omega)).mp z) (by omega)) (fun _ => ?_)
  refine V.aload_n dX6_readsNumber_30 rfl ?_
  refine V.callVv [] dX6_readsNumber_31 lk_X6_99 rfl (Nat.le_of_ble_eq_true rfl) (Nat.le_of_ble_eq_true rfl) (RH_78 _ _ _ _ _ _ _ _) rfl (s6_here l _ h n b0 th i N hi hN X hx B hB (p + 2) _ _ (by omega)) ?_
  refine V.i2l dX6_readsNumber_34 ?_
  refine V.ldc2 dX6_readsNumber_35 cn_X6_114 ?_
  refine V.ldc2 dX6_readsNumber_38 cn_X6_116 ?_
  refine V.callSv [_, _, _] dX6_readsNumber_41 lk_X6_62 rfl (Nat.le_of_ble_eq_true rfl) (Nat.le_of_ble_eq_true rfl) (s6_isInC _ _ _ (nI 48) (nI 57) (by decide) (by decide) _ _) ?_
  rw [hb_in B N _ (by omega)]
  refine V.if_eqB (tgt := 96) dX6_readsNumber_44 (by decide) (fun y2 => ?_) (fun y2 => ?_)
  · exact ex 2 NB2 _ q (by rw [nmP, q, if_pos rfl, if_neg (by omega), if_pos y1, y2, if_neg (by decide)]) g3 g4
  obtain ⟨w1, w2, w3, w4⟩ := inB_ex (by omega) (by omega) y2
  have u3 : nuV B p 3 = 10 * nuV B p 2 + dgt B 48 (p + 2) := by rw [nuV]
  refine V.aload_n dX6_readsNumber_47 rfl ?_
  refine V.getf dX6_readsNumber_48 fl_X6_40 (RH_78 _ _ _ _ _ _ _ _) rfl ?_
  refine V.aload_n dX6_readsNumber_51 rfl ?_
  refine V.getf dX6_readsNumber_52 fl_X6_103 (RH_78 _ _ _ _ _ _ _ _) rfl ?_
  refine V.iconst (v := nI 1) dX6_readsNumber_55 (by decide) ?_
  refine V.isubN dX6_readsNumber_56 (by omega) ?_
  rw [show t + 1 - 1 = t by omega]
  refine V.bipush (v := nI 10) dX6_readsNumber_57 (by decide) ?_
  refine V.aload_n dX6_readsNumber_59 rfl ?_
  refine V.getf dX6_readsNumber_60 fl_X6_40 (RH_78 _ _ _ _ _ _ _ _) rfl ?_
  refine V.aload_n dX6_readsNumber_63 rfl ?_
  refine V.getf dX6_readsNumber_64 fl_X6_103 (RH_78 _ _ _ _ _ _ _ _) rfl ?_
  refine V.iconst (v := nI 1) dX6_readsNumber_67 (by decide) ?_
  refine V.isubN dX6_readsNumber_68 (by omega) ?_
  rw [show t + 1 - 1 = t by omega]
  refine V.ialdN dX6_readsNumber_69 (RH_89 _ _ _ _ _ _ _ _) (by omega) (by decide) ?_
  rw [g3]
  refine V.imulN dX6_readsNumber_70 ?_
  refine V.aload_n dX6_readsNumber_71 rfl ?_
  refine V.callVv [] dX6_readsNumber_72 lk_X6_99 rfl (Nat.le_of_ble_eq_true rfl) (Nat.le_of_ble_eq_true rfl) (RH_78 _ _ _ _ _ _ _ _) rfl (s6_here l _ h n b0 th i N hi hN X hx B hB (p + 2) _ _ (by omega)) ?_
  rw [w2]
  refine V.iaddN dX6_readsNumber_75 ?_
  refine V.bipush (v := nI 48) dX6_readsNumber_76 (by decide) ?_
  refine V.isubN dX6_readsNumber_78 (by omega) ?_
  rw [show 10 * nuV B p 2 + (48 + dgt B 48 (p + 2)) - 48 = nuV B p 3 by omega]
  refine V.iastN dX6_readsNumber_79 (RH_89 _ _ _ _ _ _ _ _) (by omega) (by decide) ?_
  change V _ _ _ _ _ _ (hset (RH h b0 th i N (p + 2) (t + 1) NB2) 89 (ia 6 (upd NB2 t (nI (nuV B p 3))))) _ _ _ _
  rw [RH_s89]
  refine V.aload_n dX6_readsNumber_80 rfl ?_
  refine V.dup dX6_readsNumber_81 rfl ?_
  refine V.getf dX6_readsNumber_82 fl_X6_90 (RH_78 _ _ _ _ _ _ _ _) rfl ?_
  refine V.iconst (v := nI 1) dX6_readsNumber_85 (by decide) ?_
  refine V.iaddN dX6_readsNumber_86 ?_
  refine V.putf dX6_readsNumber_87 fp_X6_90 (RH_78 _ _ _ _ _ _ _ _) (Nat.le_of_ble_eq_true rfl) (fun _ => ⟨rfl, rfl⟩) ?_
  change V _ _ _ _ _ _ (hset (RH h b0 th i N (p + 2) (t + 1) (upd NB2 t (nI (nuV B p 3)))) 78 (.inr (6, moF b0 th (nI (p + 2 + 1)) (nI (100 * i)) (nI N) (nI (t + 1))))) _ _ _ _
  rw [RH_s78]
  refine V.inN1 dX6_readsNumber_90 (by decide) rfl ?_
  refine V.goto (tgt := 11) dX6_readsNumber_93 (by decide) ?_
  refine V.iload_n dX6_readsNumber_11 rfl ?_
  refine V.iconst (v := nI 3) dX6_readsNumber_12 (by decide) ?_
  refine V.icmp_geN (tgt := 96) dX6_readsNumber_13 (by decide) (by omega) (by omega) (fun _ => ?_) (fun q => absurd q (by omega))
  exact ex 3 _ _ q (by rw [nmP, q, if_pos rfl, if_neg (by omega), if_pos y1, if_pos y2]) pk_us (fun j hj => by rw [pk_un (by omega), g4 j hj])
