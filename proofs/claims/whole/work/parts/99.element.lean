/-- which throw: 0 none, 1, 2; the element -/
def elC (S : SS) (x y : Int32) : Nat := if wi x (nI 0) (nI 7) = true then (if S 0 x.toNatClampNeg = nI 2 then (if wi y (nI 0) (S 2 x.toNatClampNeg - nI 1) = true then 0 else 2) else 2) else 1
def elV (S : SS) (x y : Int32) : Int64 := if elC S x y = 0 then (S 3 (100 * x.toNatClampNeg + y.toNatClampNeg)).toInt64 else 0
theorem el_ex {S : SS} (hSI : SI S) {i : Nat} (hi : i < 8) (h2 : S 0 i = nI 2) {y : Int32} (h : wi y (nI 0) (S 2 i - nI 1) = true) : ∃ j : Nat, j < 100 ∧ y = nI j := by
  obtain ⟨-, ⟨s, hs, e2⟩⟩ := (hSI i hi).2.2 h2
  rw [e2] at h
  by_cases y0 : s = 0
  · subst y0
    simp only [wi, Bool.and_eq_true, decide_eq_true_eq] at h
    exact absurd (Int32.le_trans h.1 h.2) (by decide)
  · rw [pk_sub (by omega)] at h
    obtain ⟨j, h1, h2⟩ := wi_ex (by omega) h
    exact ⟨j, by omega, h2⟩
set_option maxRecDepth 20000 in
set_option maxHeartbeats 4000000 in
theorem x_element (l : Launch) (d : Nat) {D : va_G} {T : Nat → ClassId} {ad adV : Nat → Nat} {B : Nat} (hlt : l.stackTraces = false) (had : ∀ k, k < 1000000 → ad k = B + k) (h : MH) (n : Nat) (K : KK) (b : Bool) (KI : KK) (S : SS) (m : Nat) (hc : ClsAt h K b KI S) (hT : TI K m) (hSI : SI S) (x y : Int32) :
    vx_Met l mX5_element.1 (WS mX5_element) (rmv (d + 6) 1 6) (PcV D T ad adV B [.ref 0, .int x, .int y] h n) (QcV D T ad B (fun r h1 n1 => r = some (.long (elV S x y)) ∧ h1 = h ∧ n1 = n ∧ elC S x y = 0)) (XCd D T ad B h (fun E => (E = "java/lang/IllegalArgumentException" ∧ elC S x y = 1) ∨ (E = "java/lang/IllegalStateException" ∧ elC S x y = 2))) 1 6 (fun q => B ≤ q) := by
  obtain ⟨ht0, ⟨sq, hsq, esq⟩, -, -, -, -, -, -, -, hsh⟩ := id hc
  refine Met.ofPX hlt had (by decide +kernel) (Nat.le_of_ble_eq_true rfl) (fun X hQ htb hlk => ?_)
  show VP X 0 [some (.ref 0), some (.int x), some (.int y)] [] h n 1 6
  refine VP.iload_n dX5_element_0 rfl ?_
  refine VP.callSv [_] dX5_element_1 lk_X5_191 rfl (Nat.le_of_ble_eq_true rfl) (Nat.le_of_ble_eq_true rfl) (s5_isShelf _ _ _ _ _) ?_
  refine VP.if_neB (tgt := 18) dX5_element_4 (by decide) (fun c4 => ?_) (fun c4 => ?_)
  · obtain ⟨i, hi, rfl⟩ := wi_ex (by decide) c4
    obtain ⟨kd, fg, so, sz, el, hS, hE, hR, hW⟩ := hsh i (by omega)
    have no : elC S (nI i) y = 2 → VP X 45 [some (.ref 0), some (.int (nI i)), some (.int y)] [] h n 1 6 := fun e => by
      exact VP.throwW (c := 0) (z := 0) (j := 8) (names := ["java/lang/RuntimeException", "java/lang/Exception"]) hQ htb hlk (by omega) rfl (by decide +kernel) (by decide +kernel) cl_X5_285 in_ISE (by decide) rfl rfl at_el2 go_el2 dX5_element_45 dX5_element_48 dX5_element_49 dX5_element_52 dX5_element_55 (Or.inr ⟨rfl, e⟩)
    refine VP.aload_n dX5_element_18 rfl ?_
    refine VP.getf dX5_element_19 fl_X5_11 ht0 rfl ?_
    refine VP.iload_n dX5_element_22 rfl ?_
    refine VP.aaldN dX5_element_23 (Or.inr rfl) hsq (by omega) (by decide) (esq i (by omega)) ?_
    refine VP.getf dX5_element_24 fl_X5_197 hS rfl ?_
    refine VP.iconst (v := nI 2) dX5_element_27 (by decide) ?_
    refine VP.icmp_ne (tgt := 45) dX5_element_28 (by decide) (fun c28 => no (by rw [elC, if_pos c4, clampI (show i < 2147483648 by omega), if_neg c28])) (fun c28 => ?_)
    refine VP.aload_n dX5_element_31 rfl ?_
    refine VP.getf dX5_element_32 fl_X5_11 ht0 rfl ?_
    refine VP.iload_n dX5_element_35 rfl ?_
    refine VP.aaldN dX5_element_36 (Or.inr rfl) hsq (by omega) (by decide) (esq i (by omega)) ?_
    refine VP.iload_n dX5_element_37 rfl ?_
    refine VP.iconst (v := nI 1) dX5_element_38 (by decide) ?_
    refine VP.callVv [_, _] dX5_element_39 lk_X5_271 rfl (Nat.le_of_ble_eq_true rfl) (Nat.le_of_ble_eq_true rfl) hS rfl (s3_hasPlaces _ _ _ _ _ _ _ _ _ _ _ hS _ _) ?_
    obtain ⟨-, ⟨s, hs, e2⟩⟩ := (hSI i (by omega)).2.2 c28
    obtain ⟨-, esz, eel⟩ := hW c28
    have hcp : (!decide (y < 0) && (!decide (sz < y) && (!decide (nI 1 < 0) && !decide (sz - y < nI 1)))) = wi y (nI 0) (S 2 i - nI 1) := by
      have q := cp_1 hs y
      rw [esz, e2, ← q]
      rfl
    rw [hcp]
    refine VP.if_neB (tgt := 56) dX5_element_42 (by decide) (fun c42 => ?_) (fun c42 => no (by rw [elC, if_pos c4, clampI (show i < 2147483648 by omega), if_pos c28, c42, if_neg (by decide)]))
    obtain ⟨j, hj, rfl⟩ := el_ex hSI (by omega) c28 c42
    refine VP.aload_n dX5_element_56 rfl ?_
    refine VP.getf dX5_element_57 fl_X5_11 ht0 rfl ?_
    refine VP.iload_n dX5_element_60 rfl ?_
    refine VP.aaldN dX5_element_61 (Or.inr rfl) hsq (by omega) (by decide) (esq i (by omega)) ?_
    refine VP.getf dX5_element_62 fl_X5_179 hS rfl ?_
    refine VP.iload_n dX5_element_65 rfl ?_
    refine VP.ialdN dX5_element_66 hE (by omega) (by decide) ?_
    refine VP.i2l dX5_element_67 ?_
    have e0 : elC S (nI i) (nI j) = 0 := by rw [elC, if_pos c4, clampI (show i < 2147483648 by omega), if_pos c28, if_pos c42]
    exact VP.lret (by exact dX5_element_68) rfl ⟨by rw [elV, if_pos e0, clampI (show i < 2147483648 by omega), clampI (show j < 2147483648 by omega), eel j hj], rfl, rfl, e0⟩
  · exact VP.throwW (c := 0) (z := 0) (j := 7) (names := ["java/lang/RuntimeException", "java/lang/Exception"]) hQ htb hlk (by omega) rfl (by decide +kernel) (by decide +kernel) cl_X5_278 in_IAE (by decide) rfl rfl at_el1 go_el1 dX5_element_7 dX5_element_10 dX5_element_11 dX5_element_14 dX5_element_17 (Or.inl ⟨rfl, by rw [elC, c4, if_neg (by decide)]⟩)
abbrev mL_element : MT := (yL_element, cL_element, 5, (some .int))
def hhE : List (Nat × Nat × Nat × Nat) := [(0, 9, 12, 13), (0, 9, 16, 15)]
set_option maxRecDepth 20000 in
set_option maxHeartbeats 4000000 in
theorem l_element (l : Launch) (d : Nat) {D : va_G} {T : Nat → ClassId} {ad adV : Nat → Nat} {B : Nat} (hlt : l.stackTraces = false) (had : ∀ k, k < 1000000 → ad k = B + k) (h : MH) (n : Nat) (K : KK) (b : Bool) (KI : KK) (S : SS) (m : Nat) (hc : ClsAt h K b KI S) (hT : TI K m) (hSI : SI S) (hn : n + 1 < 1000000) (x y : Int32) (g : Nat → Int64) (h93 : h 93 = some (.inl (2, 1, .inr (.inl g)))) :
    Met l mL_element.1 (WSH mL_element hhE) (rmv (d + 7) 1 6) (PcV D T ad adV B [.ref 0, .int x, .int y, .ref 93] h n) (QcV D T ad B (fun r h1 n1 => r = some (.int (nI (elC S x y))) ∧ (∃ g1, h1 = hset h 93 (.inl (2, 1, .inr (.inl g1))) ∧ (elC S x y = 0 → g1 0 = elV S x y)) ∧ n ≤ n1 ∧ n1 ≤ n + 1)) 1 6 (fun q => B ≤ q) := by
  obtain ⟨ht0, -⟩ := id hc
  refine Met.ofPH hlt had (by decide +kernel) (Nat.le_of_ble_eq_true rfl) (fun X htb hsz => ?_)
  show VP X 0 [some (.ref 0), some (.int x), some (.int y), some (.ref 93), none] [] h n 1 6
  refine VP.aload_n dL_element_0 rfl ?_
  refine VP.iconst (v := nI 0) dL_element_1 (by decide) ?_
  refine VP.aload_n dL_element_2 rfl ?_
  refine VP.iload_n dL_element_3 rfl ?_
  refine VP.iload_n dL_element_4 rfl ?_
  refine VP.callX (c := 0) (z := 0) (c1 := 1) (z1 := 6) [_, _] dL_element_5 lk_L_7 ml_7 rfl (Nat.le_of_ble_eq_true rfl) ht0 rfl (by omega) (x_element l d hlt X.2.1.2.2.2.2.2.2.2.1 h n K b KI S m hc hT hSI x y) (fun r h1 n1 q => ?_) (fun E ce q9 n1 lsA H locs cells slots hex hcell hcv hcl hn1 hn2 hW1 hS1 hc1 hz1 hl1 => ?_)
  · obtain ⟨rfl, rfl, e9, e0⟩ := q
    rw [e9]
    refine VP.last dL_element_8 h93 (vp_in_nI (by omega) (by decide)) ?_
    refine VP.goto (tgt := 20) dL_element_9 (by decide) ?_
    refine VP.iconst (v := nI 0) dL_element_20 (by decide) ?_
    exact VP.iret (by exact dL_element_21) rfl rfl ⟨by rw [e0], ⟨_, rfl, fun _ => by rw [vp_updL, show (nI 0).toNatClampNeg = 0 from rfl, if_pos rfl]⟩, Nat.le_refl _, by omega⟩
  · have hid : h = hset h 93 (.inl (2, 1, .inr (.inl g))) := (hset_id h93).symm
    rcases hex with ⟨rfl, e1⟩ | ⟨rfl, e2⟩
    · refine VP.catchA (nm := "java/lang/IllegalArgumentException") [] ⟨0, 9, 12, 13⟩ [⟨0, 9, 16, 15⟩] (by rw [htb]; rfl) (fun y hy => by cases hy) (by decide) (by decide) cl_L_13 ca_IAE hcell hcv hcl dL_element_12 (by decide) rfl hW1 hS1 hc1 hz1 hl1 ?_
      refine VP.iconst (v := nI 1) dL_element_14 (by decide) ?_
      exact VP.iret (by exact dL_element_15) rfl rfl ⟨by rw [e1], ⟨g, hid, fun q => by omega⟩, hn1, by omega⟩
    · refine VP.catchA (nm := "java/lang/IllegalStateException") [⟨0, 9, 12, 13⟩] ⟨0, 9, 16, 15⟩ [] (by rw [htb]; rfl) (fun y hy => ?_) (by decide) (by decide) cl_L_15 ca_ISE hcell hcv hcl dL_element_16 (by decide) rfl hW1 hS1 hc1 hz1 hl1 ?_
      · rw [List.mem_singleton.mp hy]
        exact Or.inr ⟨by decide, "java/lang/IllegalArgumentException", cl_L_13, X.2.1.2.2.2.2.2.2.1.2.2.2.2.2.2.1⟩
      · refine VP.iconst (v := nI 2) dL_element_18 (by decide) ?_
        exact VP.iret (by exact dL_element_19) rfl rfl ⟨by rw [e2], ⟨g, hid, fun q => by omega⟩, hn1, by omega⟩
/-- a call of the reference that answers a long and says which throw it was -/
def QmL (v : Int64) (k : Nat) (K : KK) (b : Bool) (KI : KK) (S : SS) (h : MH) (n : Nat) : Option Value → MH → Nat → Prop := fun r h1 n1 => r = some (.long v) ∧ n1 = n ∧ ModAt h1 K b KI S ∧ (∃ po ba en tt : Int32, h1 78 = some (.inr (6, moF b (nI k) po ba en tt))) ∧ ∀ q, q < 78 ∨ 93 ≤ q → h1 q = h q
set_option maxRecDepth 20000 in
set_option maxHeartbeats 4000000 in
theorem m_element (l : Launch) (d : Nat) (h : MH) (n : Nat) (K : KK) (b : Bool) (KI : KK) (S : SS) (m : Nat) (hc : ModAt h K b KI S) (hT : TI K m) (hSI : SI S) (x y : Int32) : Sp l mX6_element (d + 2) [.ref 78, .int x, .int y] h n 0 0 (QmL (elV S x y) (elC S x y) K b KI S h n) := by
  obtain ⟨⟨th, po, ba, en, tt, hm0⟩, ha, hb, ⟨Km, hmi⟩, ⟨Kr, hre⟩, h83, h84, h85, h86, h87, h88, -⟩ := id hc
  show V _ _ _ _ [some (.ref 78), some (.int x), some (.int y)] _ _ _ _ _ _
  have fin : ∀ k, elC S x y = k → k < 3 → V l mX6_element (d + 2) 45 [some (.ref 78), some (.int x), some (.int y)] [.int (nI k), .ref 78] h n 0 0 (QmL (elV S x y) (elC S x y) K b KI S h n) := by
    intro k e hk3
    refine V.putf dX6_element_45 fp_X6_56 hm0 (Nat.le_of_ble_eq_true rfl) (fun _ => ⟨rfl, rfl⟩) ?_
    change V _ _ _ _ _ _ (hset h 78 (.inr (6, moF b (nI k) po ba en tt))) _ _ _ _
    refine V.aload_n dX6_element_48 rfl ?_
    refine V.getf dX6_element_49 fl_X6_56 (hset_self _ _ _) rfl ?_
    have fin2 : ∀ v, elV S x y = v → QmL (elV S x y) (elC S x y) K b KI S h n (some (.long v)) (hset h 78 (.inr (6, moF b (nI k) po ba en tt))) n := fun v ev => ⟨by rw [ev], rfl, ModAt.ob hc b (nI k) po ba en tt, ⟨po, ba, en, tt, by rw [hset_self, e]⟩, fun q hq => hset_ne _ _ (by omega)⟩
    refine V.if_ne (tgt := 70) dX6_element_52 (by decide) (fun c => ?_) (fun c => ?_)
    · refine V.lconst (v := 0) dX6_element_70 (by decide) ?_
      refine V.lret (by exact dX6_element_71) rfl (fin2 0 ?_)
      rw [elV, if_neg (fun q => c (by rw [show k = 0 by omega]; rfl))]
    · have k0 : k = 0 := (nI_eq (by omega) (by omega)).mp c
      subst k0
      have e1 : wi x (nI 0) (nI 7) = true := by
        cases q : wi x (nI 0) (nI 7) with
        | true => rfl
        | false => rw [elC, q, if_neg (by decide)] at e; cases e
      obtain ⟨i, hi, rfl⟩ := wi_ex (by decide) e1
      have e0 := e
      rw [elC, if_pos e1, clampI (show i < 2147483648 by omega)] at e
      have e2 : S 0 i = nI 2 := by
        by_cases q : S 0 i = nI 2
        · exact q
        · rw [if_neg q] at e; cases e
      rw [if_pos e2] at e
      have e3 : wi y (nI 0) (S 2 i - nI 1) = true := by
        cases q : wi y (nI 0) (S 2 i - nI 1) with
        | true => rfl
        | false => rw [q, if_neg (by decide)] at e; cases e
      obtain ⟨j, hj, rfl⟩ := el_ex hSI (by omega) e2 e3
      refine V.aload_n dX6_element_55 rfl ?_
      refine V.getf dX6_element_56 fl_X6_31 (hset_self _ _ _) rfl ?_
      refine V.bipush (v := nI 100) dX6_element_59 (by decide) ?_
      refine V.iload_n dX6_element_61 rfl ?_
      refine V.imulN dX6_element_62 ?_
      refine V.iload_n dX6_element_63 rfl ?_
      refine V.iaddN dX6_element_64 ?_
      refine V.ialdN dX6_element_65 (o_ne h86 (by omega)) (by omega) (by decide) ?_
      refine V.i2l dX6_element_66 ?_
      refine V.goto (tgt := 71) dX6_element_67 (by decide) ?_
      refine V.lret (by exact dX6_element_71) rfl (fin2 _ ?_)
      rw [elV, if_pos e0, clampI (show i < 2147483648 by omega), clampI (show j < 2147483648 by omega)]
  refine V.aload_n dX6_element_0 rfl ?_
  refine V.iload_n dX6_element_1 rfl ?_
  refine V.callSv [_] dX6_element_2 lk_X6_157 rfl (Nat.le_of_ble_eq_true rfl) (Nat.le_of_ble_eq_true rfl) (s6_isShelf _ _ _ _ _) ?_
  refine V.if_neB (tgt := 12) dX6_element_5 (by decide) (fun c5 => ?_) (fun c5 => ?_)
  · obtain ⟨i, hi, rfl⟩ := wi_ex (by decide) c5
    have no : elC S (nI i) y = 2 → V l mX6_element (d + 2) 40 [some (.ref 78), some (.int (nI i)), some (.int y)] [.ref 78] h n 0 0 (QmL (elV S (nI i) y) (elC S (nI i) y) K b KI S h n) := fun e => by
      refine V.iconst (v := nI 2) dX6_element_40 (by decide) ?_
      refine V.goto (tgt := 45) dX6_element_41 (by decide) ?_
      exact fin 2 e (by omega)
    refine V.aload_n dX6_element_12 rfl ?_
    refine V.getf dX6_element_13 fl_X6_22 hm0 rfl ?_
    refine V.iload_n dX6_element_16 rfl ?_
    refine V.ialdN dX6_element_17 h83 (by omega) (by decide) ?_
    refine V.iconst (v := nI 2) dX6_element_18 (by decide) ?_
    refine V.icmp_ne (tgt := 40) dX6_element_19 (by decide) (fun c19 => no (by rw [elC, if_pos c5, clampI (show i < 2147483648 by omega), if_neg c19])) (fun c19 => ?_)
    refine V.iload_n dX6_element_22 rfl ?_
    refine V.i2l dX6_element_23 ?_
    refine V.lconst (v := 0) dX6_element_24 (by decide) ?_
    refine V.aload_n dX6_element_25 rfl ?_
    refine V.getf dX6_element_26 fl_X6_28 hm0 rfl ?_
    refine V.iload_n dX6_element_29 rfl ?_
    refine V.ialdN dX6_element_30 h85 (by omega) (by decide) ?_
    refine V.iconst (v := nI 1) dX6_element_31 (by decide) ?_
    refine V.isub dX6_element_32 ?_
    refine V.i2l dX6_element_33 ?_
    refine V.callSv [_, _, _] dX6_element_34 lk_X6_62 rfl (Nat.le_of_ble_eq_true rfl) (Nat.le_of_ble_eq_true rfl) (s6_isInC _ _ _ (nI 0) _ (by decide) rfl _ _) ?_
    refine V.if_neB (tgt := 44) dX6_element_37 (by decide) (fun c37 => ?_) (fun c37 => no (by rw [elC, if_pos c5, clampI (show i < 2147483648 by omega), if_pos c19, c37, if_neg (by decide)]))
    refine V.iconst (v := nI 0) dX6_element_44 (by decide) ?_
    exact fin 0 (by rw [elC, if_pos c5, clampI (show i < 2147483648 by omega), if_pos c19, if_pos c37]) (by omega)
  · refine V.iconst (v := nI 1) dX6_element_8 (by decide) ?_
    refine V.goto (tgt := 45) dX6_element_9 (by decide) ?_
    exact fin 1 (by rw [elC, c5, if_neg (by decide)]) (by omega)
theorem m_thrown (l : Launch) (d : Nat) (h : MH) (n : Nat) (b : Bool) (th po ba en tt : Int32) (hm0 : h 78 = some (.inr (6, moF b th po ba en tt))) : Sp l mX6_thrown d [.ref 78] h n 0 0 (Pv th h n) := by
  show V _ _ _ _ [some (.ref 78)] _ _ _ _ _ _
  refine V.aload_n dX6_thrown_0 rfl ?_
  refine V.getf dX6_thrown_1 fl_X6_56 hm0 rfl ?_
  exact V.iretP (by exact dX6_thrown_4) rfl rfl rfl
