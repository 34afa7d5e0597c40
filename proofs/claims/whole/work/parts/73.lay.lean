/-- whether a cell may get a ground -/
def mbB (K : KK) (m g c : Nat) : Bool := decide (g = 0) || (!keptB (nI c) && !(decide (g = 3) && eB (fun p => decide (gP K p 3 = nI c)) m))
def gK (K : KK) (g : Nat) (D : Nat → Bool) : KK := fun j => if j < 84 ∧ D j = true then nI g else K j
theorem gK_hi (K : KK) (g : Nat) (D : Nat → Bool) (j : Nat) (hj : 84 ≤ j) : gK K g D j = K j := if_neg (by omega)
theorem gK_gP (K : KK) (g : Nat) (D : Nat → Bool) (p u : Nat) : gP (gK K g D) p u = gP K p u := gK_hi _ _ _ _ (by omega)
def mn (x y : Nat) : Nat := if y < x then y else x
def mx (x y : Nat) : Nat := if x < y then y else x
theorem mn_is {x y : Nat} (hx : x < 1000) (hy : y < 1000) : (if nI y < nI x then nI y else nI x) = nI (mn x y) := by
  unfold mn
  by_cases q : y < x
  · rw [if_pos q, if_pos ((nI_ltI (by omega) (by omega)).mpr q)]
  · rw [if_neg q, if_neg (fun z => q ((nI_ltI (by omega) (by omega)).mp z))]
theorem mx_is2 {x y : Nat} (hx : x < 1000) (hy : y < 1000) : (if nI x < nI y then nI y else nI x) = nI (mx x y) := by
  unfold mx
  by_cases q : x < y
  · rw [if_pos q, if_pos ((nI_ltI (by omega) (by omega)).mpr q)]
  · rw [if_neg q, if_neg (fun z => q ((nI_ltI (by omega) (by omega)).mp z))]
/-- the rectangle of two cells -/
def inR (a b j : Nat) : Bool := decide ((mn (a % 12) (b % 12) ≤ j % 12 ∧ j % 12 ≤ mx (a % 12) (b % 12)) ∧ mn (a / 12) (b / 12) ≤ j / 12 ∧ j / 12 ≤ mx (a / 12) (b / 12))
/-- what of it is laid, come to row y, column x -/
def dnR (a b y x j : Nat) : Bool := decide ((mn (a % 12) (b % 12) ≤ j % 12 ∧ j % 12 ≤ mx (a % 12) (b % 12)) ∧ ((mn (a / 12) (b / 12) ≤ j / 12 ∧ j / 12 < y) ∨ (j / 12 = y ∧ j % 12 < x)))
def eGr (g a b : Nat) (K : KK) (m : Nat) : Option KK := if (!begB K && (decide (g < 4) && aB (fun j => !inR a b j || mbB K m g j) 84)) = true then some (gK K g (inR a b)) else none
theorem gK_up (K : KK) (g : Nat) (D D1 : Nat → Bool) (c : Nat) (hc : c < 84) (h : ∀ j, j < 84 → D1 j = (D j || decide (j = c))) : upd (gK K g D) c (nI g) = gK K g D1 := by
  funext j
  unfold gK
  by_cases q : j = c
  · subst q; rw [pk_us, if_pos ⟨hc, by rw [h j hc]; simp⟩]
  · rw [pk_un q]
    by_cases y : j < 84
    · rw [h j y]; simp [q]
    · rw [if_neg (by omega), if_neg (by omega)]
theorem gK_eq (K : KK) (g : Nat) {D D1 : Nat → Bool} (h : ∀ j, j < 84 → D1 j = D j) : gK K g D = gK K g D1 := by
  funext j
  unfold gK
  by_cases y : j < 84
  · rw [h j y]
  · rw [if_neg (by omega), if_neg (by omega)]
theorem WoodAt.gr {h : MH} {w : Nat} {K : KK} {cl P : Nat → Int32} {pn : Nat} (hw : WoodAt h w K cl P pn) {gr : Nat → Int32} (hgr : h (w + 1) = some (.inl (0, 84, .inl gr))) (c : Nat) (v : Int32) (hc : c < 84) : WoodAt (hset h (w + 1) (.inl (0, 84, .inl (upd gr c v)))) w (upd K c v) cl P pn := by
  obtain ⟨a0, ⟨gr2, b1, c1⟩, ⟨ru, b2, c2⟩, ⟨pq, b3, c3⟩, a4, ⟨fl, b5, c5⟩, ⟨ca, b6, c6⟩, ⟨wa, b7⟩, b8, b9⟩ := hw
  have e5 : gr = gr2 := by
    have := hgr.symm.trans b1
    simpa using this
  subst e5
  have hl : ∀ i, i ≠ c → upd K c v i = K i := fun i hi => pk_un hi
  have hg : ∀ p u, gP (upd K c v) p u = gP K p u := fun p u => gP_lo _ _ _ _ _ (by omega)
  refine ⟨?_, ⟨_, hset_self _ _ _, fun i hi => ?_⟩, ⟨ru, o_ne b2 (by omega), fun i hi => by rw [hl _ (by omega)]; exact c2 i hi⟩, ⟨pq, o_ne b3 (by omega), c3⟩, o_ne a4 (by omega), ⟨fl, o_ne b5 (by omega), fun i hi => by rw [hl _ (by omega)]; exact c5 i hi⟩, ⟨ca, o_ne b6 (by omega), fun i hi => by rw [hl _ (by omega)]; exact c6 i hi⟩, ⟨wa, o_ne b7 (by omega)⟩, fun i hi => ?_, fun i hi => by rw [hg]; exact b9 i hi⟩
  · refine o_ne ?_ (by omega)
    rw [a0]
    simp only [woF, hl _ (show 90 ≠ c by omega), hl _ (show 91 ≠ c by omega), hl _ (show 92 ≠ c by omega), hl _ (show 93 ≠ c by omega), hl _ (show 94 ≠ c by omega), hl _ (show 95 ≠ c by omega)]
  · by_cases q : i = c
    · subst q; rw [pk_us, pk_us]
    · rw [pk_un q, hl _ q]; exact c1 i hi
  · refine o_ne ?_ (by omega)
    rw [b8 i hi]
    simp only [pF, cAt, hg]
set_option maxRecDepth 20000 in
set_option maxHeartbeats 4000000 in
theorem s4_mayBecome_loop (l : Launch) (d : Nat) (h : MH) (n w : Nat) (K : KK) (cl P : Nat → Int32) (pn : Nat) (hw : WoodAt h w K cl P pn) (m : Nat) (hm : K 90 = nI m) (hm10 : m ≤ 10) (g c : Nat) (hg : g < 10) (hg0 : ¬ g = 0) (hk : keptB (nI c) = false) : ∀ (r p : Nat), (decide (g = 3) && eB (fun q => decide (gP K q 3 = nI c)) p) = false → p + r = m → V l mX4_mayBecome (d + 1) 39 [some (.ref w), some (.int (nI c)), some (.int (nI g)), some (.int (nI p))] [] h n 0 0 (Pv (bI (mbB K m g c)) h n) := by
  obtain ⟨hw0, ⟨gr, hgr, egr⟩, ⟨ru, hru, eru⟩, ⟨pq, hpf, epf⟩, hpl, ⟨fl, hfl, efl⟩, ⟨ca, hca, eca⟩, ⟨wa, hwa⟩, hpp, hhd⟩ := id hw
  intro r
  induction r with
  | zero =>
    intro p hh hp
    refine V.iload_n dX4_mayBecome_39 rfl ?_
    refine V.aload_n dX4_mayBecome_40 rfl ?_
    refine V.getf dX4_mayBecome_41 fl_X4_51 hw0 rfl ?_
    rw [hm]
    refine V.icmp_geN (tgt := 73) dX4_mayBecome_44 (by decide) (by omega) (by omega) (fun _ => ?_) (fun q => absurd q (by omega))
    refine V.iconst (v := nI 1) dX4_mayBecome_73 (by decide) ?_
    have hno : (decide (g = 3) && eB (fun q => decide (gP K q 3 = nI c)) m) = false := by rw [show m = p by omega]; exact hh
    exact V.iretZ (by exact dX4_mayBecome_74) rfl (by rw [mbB, hno, hk, decide_eq_false hg0]; rfl) rfl
  | succ r ih =>
    intro p hh hp
    refine V.iload_n dX4_mayBecome_39 rfl ?_
    refine V.aload_n dX4_mayBecome_40 rfl ?_
    refine V.getf dX4_mayBecome_41 fl_X4_51 hw0 rfl ?_
    rw [hm]
    refine V.icmp_geN (tgt := 73) dX4_mayBecome_44 (by decide) (by omega) (by omega) (fun q => absurd q (by omega)) (fun _ => ?_)
    refine V.iload_n dX4_mayBecome_47 rfl ?_
    refine V.iconst (v := nI 3) dX4_mayBecome_48 (by decide) ?_
    refine V.icmp_neN (tgt := 67) dX4_mayBecome_49 (by decide) (by omega) (by omega) (fun c49 => ?_) (fun c49 => ?_)
    · refine V.inN3 dX4_mayBecome_67 (by decide) rfl ?_
      refine V.goto (tgt := 39) dX4_mayBecome_70 (by decide) ?_
      refine ih (p + 1) ?_ (by omega)
      first
      | rw [decide_eq_false c49]; rfl
      | (rw [eB, decide_eq_false c62, Bool.or_false]; exact hh)
    · refine V.aload_n dX4_mayBecome_52 rfl ?_
      refine V.getf dX4_mayBecome_53 fl_X4_20 hw0 rfl ?_
      refine V.iload_n dX4_mayBecome_56 rfl ?_
      refine V.aaldN dX4_mayBecome_57 (Or.inl rfl) hpf (by omega) (by decide) (epf _ (by omega)) ?_
      refine V.getf dX4_mayBecome_58 fl_X4_101 (hpp _ (by omega)) rfl ?_
      refine V.iload_n dX4_mayBecome_61 rfl ?_
      refine V.icmp_ne (tgt := 67) dX4_mayBecome_62 (by decide) (fun c62 => ?_) (fun c62 => ?_)
      · refine V.inN3 dX4_mayBecome_67 (by decide) rfl ?_
        refine V.goto (tgt := 39) dX4_mayBecome_70 (by decide) ?_
        refine ih (p + 1) ?_ (by omega)
        first
        | rw [decide_eq_false c49]; rfl
        | (rw [eB, decide_eq_false c62, Bool.or_false]; exact hh)
      · refine V.iconst (v := nI 0) dX4_mayBecome_65 (by decide) ?_
        have hy : eB (fun q => decide (gP K q 3 = nI c)) m = true := (eB_iff _ _).mpr ⟨p, by omega, decide_eq_true c62⟩
        exact V.iretZ (by exact dX4_mayBecome_66) rfl (by rw [mbB, hy, decide_eq_true c49, decide_eq_false hg0]; simp [bIf]) rfl
set_option maxRecDepth 20000 in
set_option maxHeartbeats 4000000 in
theorem s4_mayBecome (l : Launch) (d : Nat) (h : MH) (n w : Nat) (K : KK) (cl P : Nat → Int32) (pn : Nat) (hw : WoodAt h w K cl P pn) (m : Nat) (hm : K 90 = nI m) (hm10 : m ≤ 10) (g c : Nat) (hg : g < 10) : Sp l mX4_mayBecome (d + 1) [.ref w, .int (nI c), .int (nI g)] h n 0 0 (Pv (bI (mbB K m g c)) h n) := by
  show V _ _ _ _ [some (.ref w), some (.int (nI c)), some (.int (nI g)), none] _ _ _ _ _ _
  refine V.iload_n dX4_mayBecome_0 rfl ?_
  by_cases hg0 : g = 0
  · subst hg0
    refine V.if_ne (tgt := 6) dX4_mayBecome_1 (by decide) (fun q => absurd rfl q) (fun _ => ?_)
    refine V.iconst (v := nI 1) dX4_mayBecome_4 (by decide) ?_
    exact V.iretZ (by exact dX4_mayBecome_5) rfl rfl rfl
  · refine V.if_ne (tgt := 6) dX4_mayBecome_1 (by decide) (fun _ => ?_) (fun q => absurd ((nI_eq (a := g) (b := 0) (by omega) (by omega)).mp q) hg0)
    have k29 : ∀ e : Nat, keptB (nI c) = true → V l mX4_mayBecome (d + 1) 29 [some (.ref w), some (.int (nI c)), some (.int (nI g)), some (.int (nI e))] [] h n 0 0 (Pv (bI (mbB K m g c)) h n) := fun e hk => by
      refine V.iconst (v := nI 0) dX4_mayBecome_29 (by decide) ?_
      exact V.iretZ (by exact dX4_mayBecome_30) rfl (by rw [mbB, hk, decide_eq_false hg0]; rfl) rfl
    refine V.iconst (v := nI 0) dX4_mayBecome_6 (by decide) ?_
    refine V.ist3 dX4_mayBecome_7 (by decide) rfl ?_
    refine V.iload_n dX4_mayBecome_8 rfl ?_
    refine V.iconst (v := nI 2) dX4_mayBecome_9 (by decide) ?_
    refine V.icmp_ge (tgt := 37) dX4_mayBecome_10 (by decide) (fun q => absurd q (by decide)) (fun _ => ?_)
    refine V.iload_n dX4_mayBecome_13 rfl ?_
    refine V.iload_n dX4_mayBecome_14 rfl ?_
    refine V.callSv [_] dX4_mayBecome_15 lk_X4_94 rfl (Nat.le_of_ble_eq_true rfl) (Nat.le_of_ble_eq_true rfl) (s5_flagPlaceOf _ _ _ _ _) ?_
    refine V.icmp_eq (tgt := 29) dX4_mayBecome_18 (by decide) (fun d0 => (k29 0 (decide_eq_true (by rw [d0]; decide)))) (fun d0 => ?_)
    refine V.iload_n dX4_mayBecome_21 rfl ?_
    refine V.iload_n dX4_mayBecome_22 rfl ?_
    refine V.callSv [_] dX4_mayBecome_23 lk_X4_98 rfl (Nat.le_of_ble_eq_true rfl) (Nat.le_of_ble_eq_true rfl) (s5_gaolOf _ _ _ _ _) ?_
    refine V.icmp_ne (tgt := 31) dX4_mayBecome_26 (by decide) (fun g0 => ?_) (fun g0 => (k29 0 (decide_eq_true (by rw [g0]; decide))))
    refine V.inN3 dX4_mayBecome_31 (by decide) rfl ?_
    refine V.goto (tgt := 8) dX4_mayBecome_34 (by decide) ?_
    refine V.iload_n dX4_mayBecome_8 rfl ?_
    refine V.iconst (v := nI 2) dX4_mayBecome_9 (by decide) ?_
    refine V.icmp_ge (tgt := 37) dX4_mayBecome_10 (by decide) (fun q => absurd q (by decide)) (fun _ => ?_)
    refine V.iload_n dX4_mayBecome_13 rfl ?_
    refine V.iload_n dX4_mayBecome_14 rfl ?_
    refine V.callSv [_] dX4_mayBecome_15 lk_X4_94 rfl (Nat.le_of_ble_eq_true rfl) (Nat.le_of_ble_eq_true rfl) (s5_flagPlaceOf _ _ _ _ _) ?_
    refine V.icmp_eq (tgt := 29) dX4_mayBecome_18 (by decide) (fun d1 => (k29 1 (decide_eq_true (by rw [d1]; decide)))) (fun d1 => ?_)
    refine V.iload_n dX4_mayBecome_21 rfl ?_
    refine V.iload_n dX4_mayBecome_22 rfl ?_
    refine V.callSv [_] dX4_mayBecome_23 lk_X4_98 rfl (Nat.le_of_ble_eq_true rfl) (Nat.le_of_ble_eq_true rfl) (s5_gaolOf _ _ _ _ _) ?_
    refine V.icmp_ne (tgt := 31) dX4_mayBecome_26 (by decide) (fun g1 => ?_) (fun g1 => (k29 1 (decide_eq_true (by rw [g1]; decide))))
    refine V.inN3 dX4_mayBecome_31 (by decide) rfl ?_
    refine V.goto (tgt := 8) dX4_mayBecome_34 (by decide) ?_
    refine V.iload_n dX4_mayBecome_8 rfl ?_
    refine V.iconst (v := nI 2) dX4_mayBecome_9 (by decide) ?_
    refine V.icmp_ge (tgt := 37) dX4_mayBecome_10 (by decide) (fun _ => ?_) (fun q => absurd (by decide) q)
    have hk : keptB (nI c) = false := decide_eq_false (fun y => by
      rcases y with y | y | y | y
      · exact d0 (by rw [fp0]; exact y)
      · exact d1 (by rw [show nI (0 + 1) = nI 1 from rfl, fp1]; exact y)
      · exact g0 (by rw [gl0]; exact y)
      · exact g1 (by rw [show nI (0 + 1) = nI 1 from rfl, gl1]; exact y))
    refine V.iconst (v := nI 0) dX4_mayBecome_37 (by decide) ?_
    refine V.ist3 dX4_mayBecome_38 (by decide) rfl ?_
    exact s4_mayBecome_loop l d h n w K cl P pn hw m hm hm10 g c hg hg0 hk m 0 (by rw [eB, Bool.and_false]) (by omega)
theorem mbB_gK (K : KK) (m g c : Nat) (D : Nat → Bool) : mbB (gK K g D) m g c = mbB K m g c := by
  unfold mbB
  simp only [gK_gP]
theorem mnx (x y : Nat) : mn x y ≤ mx x y ∧ (mn x y = x ∨ mn x y = y) ∧ (mx x y = x ∨ mx x y = y) := by
  unfold mn mx
  by_cases q : y < x
  · rw [if_pos q, if_neg (by omega)]; omega
  · rw [if_neg q]; split <;> omega
set_option maxRecDepth 20000 in
set_option maxHeartbeats 4000000 in
theorem s4_lay_c (l : Launch) (d n w : Nat) (K : KK) (cl P : Nat → Int32) (pn g a b : Nat) (hg : g < 4) (ha : a < 84) (hb : b < 84) (hbg : begB K = false) (m : Nat) (hm : K 90 = nI m) (hm10 : m ≤ 10) (hPR : PR K P pn) (h0 : MH) (y : Nat) (hy1 : mn (a / 12) (b / 12) ≤ y) (hy2 : y ≤ mx (a / 12) (b / 12)) (kk : ∀ (x : Nat) (h : MH), WoodAt h w (gK K g (dnR a b y x)) cl P pn → Out h0 h w → (∀ j, j < 84 → dnR a b y x j = true → mbB K m g j = true) → x = mx (a % 12) (b % 12) + 1 → V l mX4_lay (d + 2) 142 [some (.ref w), some (.int (nI g)), some (.int (nI a)), some (.int (nI b)), some (.int (nI (mn (a % 12) (b % 12)))), some (.int (nI (mx (a % 12) (b % 12)))), some (.int (nI (mn (a / 12) (b / 12)))), some (.int (nI (mx (a / 12) (b / 12)))), some (.int (nI y)), none, none] [] h n 0 0 (Cq w (eGr g a b K m) h0 n)) : ∀ (r x : Nat) (h : MH), WoodAt h w (gK K g (dnR a b y x)) cl P pn → Out h0 h w → (∀ j, j < 84 → dnR a b y x j = true → mbB K m g j = true) → mn (a % 12) (b % 12) ≤ x → x + r = mx (a % 12) (b % 12) + 1 → V l mX4_lay (d + 2) 99 [some (.ref w), some (.int (nI g)), some (.int (nI a)), some (.int (nI b)), some (.int (nI (mn (a % 12) (b % 12)))), some (.int (nI (mx (a % 12) (b % 12)))), some (.int (nI (mn (a / 12) (b / 12)))), some (.int (nI (mx (a / 12) (b / 12)))), some (.int (nI y)), some (.int (nI x)), none] [] h n 0 0 (Cq w (eGr g a b K m) h0 n) := by
  have hx := mnx (a % 12) (b % 12)
  have hyy := mnx (a / 12) (b / 12)
  intro r
  induction r with
  | zero =>
    intro x h hw ho hh hx1 hr
    refine V.iload dX4_lay_99 rfl ?_
    refine V.iload dX4_lay_101 rfl ?_
    refine V.icmp_gtN (tgt := 142) dX4_lay_103 (by decide) (by omega) (by omega) (fun _ => ?_) (fun q => absurd q (by omega))
    exact V.drop 9 (kk x h hw ho hh (by omega))
  | succ r ih =>
    intro x h hw ho hh hx1 hr
    refine V.iload dX4_lay_99 rfl ?_
    refine V.iload dX4_lay_101 rfl ?_
    refine V.icmp_gtN (tgt := 142) dX4_lay_103 (by decide) (by omega) (by omega) (fun q => absurd q (by omega)) (fun _ => ?_)
    refine V.bipush (v := nI 12) dX4_lay_106 (by decide) ?_
    refine V.iload dX4_lay_108 rfl ?_
    refine V.imulN dX4_lay_110 ?_
    refine V.iload dX4_lay_111 rfl ?_
    refine V.iaddN dX4_lay_113 ?_
    refine V.ist10 dX4_lay_114 (by decide) rfl ?_
    refine V.aload_n dX4_lay_116 rfl ?_
    refine V.iload dX4_lay_117 rfl ?_
    refine V.iload_n dX4_lay_119 rfl ?_
    have hcl : 12 * y + x < 84 := by omega
    refine V.callVv [_, _] dX4_lay_120 lk_X4_90 rfl (Nat.le_of_ble_eq_true rfl) (Nat.le_of_ble_eq_true rfl) hw.1 rfl (s4_mayBecome _ _ _ _ _ _ _ _ _ hw m ((gK_hi _ _ _ _ (by omega)).trans hm) hm10 g (12 * y + x) (by omega)) ?_
    rw [mbB_gK]
    refine V.if_neB (tgt := 128) dX4_lay_123 (by decide) (fun c123 => ?_) (fun c123 => ?_)
    · refine V.aload_n dX4_lay_128 rfl ?_
      obtain ⟨gr, hgr, egr⟩ := hw.2.1
      refine V.getf dX4_lay_129 fl_X4_9 hw.1 rfl ?_
      refine V.iload dX4_lay_132 rfl ?_
      refine V.iload_n dX4_lay_134 rfl ?_
      refine V.iastN dX4_lay_135 hgr hcl (by decide) ?_
      refine V.inN9 dX4_lay_136 (by decide) rfl ?_
      refine V.goto (tgt := 99) dX4_lay_139 (by decide) ?_
      have hw2 := hw.gr hgr (12 * y + x) (nI g) hcl
      have hD : ∀ j, j < 84 → dnR a b y (x + 1) j = (dnR a b y x j || decide (j = 12 * y + x)) := fun j hj => by
        unfold dnR
        rw [← Bool.decide_or]
        refine decide_eq_decide.mpr ⟨fun q => ?_, fun q => ?_⟩
        · by_cases e : j = 12 * y + x
          · exact Or.inr e
          · exact Or.inl (by omega)
        · rcases q with q | q
          · omega
          · subst q; omega
      rw [gK_up K g _ _ _ hcl hD] at hw2
      exact V.drop 10 (ih (x + 1) _ hw2 (ho.set _ _ (by omega) (by omega)) (fun j hj hdn => by
        rw [hD j hj, Bool.or_eq_true] at hdn
        rcases hdn with q | q
        · exact hh j hj q
        · rw [of_decide_eq_true q]; exact c123) (by omega) (by omega))
    · refine V.iconst (v := nI 0) dX4_lay_126 (by decide) ?_
      have hin : inR a b (12 * y + x) = true := by
        rw [inR, show (12 * y + x) % 12 = x by omega, show (12 * y + x) / 12 = y by omega]
        exact decide_eq_true (by omega)
      have hr : eGr g a b K m = none := by rw [eGr, aB_no (f := fun j => !inR a b j || mbB K m g j) hcl (by simp only [hin, c123]; rfl)]; simp
      exact V.iret (by exact dX4_lay_127) rfl (bI_narrow false) (by rw [hr]; exact ⟨rfl, rfl, ho, _, cl, P, pn, hw, fun K2 e => by cases e⟩)
theorem aB_all {f : Nat → Bool} : ∀ {m : Nat}, (∀ i, i < m → f i = true) → aB f m = true := by
  intro m
  induction m with
  | zero => intro _; rfl
  | succ m ih => intro h; rw [aB, ih (fun i hi => h i (by omega)), h m (by omega)]; rfl
set_option maxRecDepth 20000 in
set_option maxHeartbeats 4000000 in
theorem s4_lay_r (l : Launch) (d n w : Nat) (K : KK) (cl P : Nat → Int32) (pn g a b : Nat) (hg : g < 4) (ha : a < 84) (hb : b < 84) (hbg : begB K = false) (m : Nat) (hm : K 90 = nI m) (hm10 : m ≤ 10) (hPR : PR K P pn) (h0 : MH) : ∀ (r y : Nat) (h : MH), WoodAt h w (gK K g (dnR a b y (mn (a % 12) (b % 12)))) cl P pn → Out h0 h w → (∀ j, j < 84 → dnR a b y (mn (a % 12) (b % 12)) j = true → mbB K m g j = true) → mn (a / 12) (b / 12) ≤ y → y + r = mx (a / 12) (b / 12) + 1 → V l mX4_lay (d + 2) 88 [some (.ref w), some (.int (nI g)), some (.int (nI a)), some (.int (nI b)), some (.int (nI (mn (a % 12) (b % 12)))), some (.int (nI (mx (a % 12) (b % 12)))), some (.int (nI (mn (a / 12) (b / 12)))), some (.int (nI (mx (a / 12) (b / 12)))), some (.int (nI y)), none, none] [] h n 0 0 (Cq w (eGr g a b K m) h0 n) := by
  have hx := mnx (a % 12) (b % 12)
  have hyy := mnx (a / 12) (b / 12)
  intro r
  induction r with
  | zero =>
    intro y h hw ho hh hy hr
    refine V.iload dX4_lay_88 rfl ?_
    refine V.iload dX4_lay_90 rfl ?_
    refine V.icmp_gtN (tgt := 148) dX4_lay_92 (by decide) (by omega) (by omega) (fun _ => ?_) (fun q => absurd q (by omega))
    refine V.iconst (v := nI 1) dX4_lay_148 (by decide) ?_
    have hD : ∀ j, j < 84 → inR a b j = dnR a b y (mn (a % 12) (b % 12)) j := fun j hj => by
      unfold dnR inR
      exact decide_eq_decide.mpr ⟨fun q => by omega, fun q => by omega⟩
    have hok : aB (fun j => !inR a b j || mbB K m g j) 84 = true := by
      cases q : aB (fun j => !inR a b j || mbB K m g j) 84 with
      | true => rfl
      | false =>
        exact absurd (aB_all (f := fun j => !inR a b j || mbB K m g j) (fun j hj => by
          show (!inR a b j || mbB K m g j) = true
          cases q2 : inR a b j with
          | false => rfl
          | true => rw [hh j hj (by rw [← hD j hj]; exact q2)]; rfl)) (by rw [q]; decide)
    have hr : eGr g a b K m = some (gK K g (inR a b)) := by rw [eGr, hbg, hok, decide_eq_true hg]; rfl
    rw [gK_eq K g hD] at hw
    exact V.iret (by exact dX4_lay_149) rfl (bI_narrow true) (by rw [hr]; exact ⟨rfl, rfl, ho, _, cl, P, pn, hw, fun K2 e => by rw [← Option.some.inj e]; exact ⟨rfl, PR_lo hPR (fun i y1 y2 => gK_hi _ _ _ _ (by omega))⟩⟩)
  | succ r ih =>
    intro y h hw ho hh hy hr
    refine V.iload dX4_lay_88 rfl ?_
    refine V.iload dX4_lay_90 rfl ?_
    refine V.icmp_gtN (tgt := 148) dX4_lay_92 (by decide) (by omega) (by omega) (fun q => absurd q (by omega)) (fun _ => ?_)
    refine V.iload dX4_lay_95 rfl ?_
    refine V.ist9 dX4_lay_97 (by decide) rfl ?_
    refine s4_lay_c l d n w K cl P pn g a b hg ha hb hbg m hm hm10 hPR h0 y (by omega) (by omega) (fun x1 h1 hw1 ho1 hh1 hx1 => ?_) (mx (a % 12) (b % 12) + 1 - mn (a % 12) (b % 12)) (mn (a % 12) (b % 12)) h hw ho hh (Nat.le_refl _) (by omega)
    refine V.inN8 dX4_lay_142 (by decide) rfl ?_
    refine V.goto (tgt := 88) dX4_lay_145 (by decide) ?_
    have hD : ∀ j, j < 84 → dnR a b (y + 1) (mn (a % 12) (b % 12)) j = dnR a b y x1 j := fun j hj => by
      unfold dnR
      exact decide_eq_decide.mpr ⟨fun q => by omega, fun q => by omega⟩
    rw [gK_eq K g hD] at hw1
    exact ih (y + 1) h1 hw1 ho1 (fun j hj hdn => hh1 j hj (by rw [← hD j hj]; exact hdn)) (by omega) (by omega)
set_option maxRecDepth 20000 in
set_option maxHeartbeats 4000000 in
theorem s4_lay (l : Launch) (d : Nat) (h : MH) (n w : Nat) (K : KK) (cl P : Nat → Int32) (pn : Nat) (hw : WoodAt h w K cl P pn) (m : Nat) (hm : K 90 = nI m) (hm10 : m ≤ 10) (hPR : PR K P pn) (g a b : Nat) (hg : g < 10) (ha : a < 84) (hb : b < 84) : Sp l mX4_lay (d + 2) [.ref w, .int (nI g), .int (nI a), .int (nI b)] h n 0 0 (Cq w (eGr g a b K m) h n) := by
  obtain ⟨hw0, ⟨gr, hgr, egr⟩, ⟨ru, hru, eru⟩, ⟨pq, hpf, epf⟩, hpl, ⟨fl, hfl, efl⟩, ⟨ca, hca, eca⟩, ⟨wa, hwa⟩, hpp, hhd⟩ := id hw
  show V _ _ _ _ [some (.ref w), some (.int (nI g)), some (.int (nI a)), some (.int (nI b)), none, none, none, none, none, none, none] _ _ _ _ _ _
  refine V.aload_n dX4_lay_0 rfl ?_
  refine V.getf dX4_lay_1 fl_X4_58 hw0 rfl ?_
  refine V.if_gt (tgt := 30) dX4_lay_4 (by decide) (fun c4 => ?_) (fun c4 => ?_)
  · refine V.iconst (v := nI 0) dX4_lay_30 (by decide) ?_
    have hr : eGr g a b K m = none := by
      first
      | (rw [eGr, begB, decide_eq_true c4]; rfl)
      | (rw [eGr, decide_eq_false (show ¬ g < 4 by have hq := of_decide_eq_false ((wi_nI (by omega) (by omega)).symm.trans c13); omega)]; simp)
    exact V.iret (by exact dX4_lay_31) rfl (bI_narrow false) (by
      rw [hr]
      exact ⟨rfl, rfl, Out.rf h w, K, cl, P, pn, hw, fun K2 e => by cases e⟩)
  · refine V.iload_n dX4_lay_7 rfl ?_
    refine V.iconst (v := nI 0) dX4_lay_8 (by decide) ?_
    refine V.iconst (v := nI 3) dX4_lay_9 (by decide) ?_
    refine V.callSv [_, _, _] dX4_lay_10 lk_X4_73 rfl (Nat.le_of_ble_eq_true rfl) (Nat.le_of_ble_eq_true rfl) (s5_within _ _ _ _ _ _ _) ?_
    refine V.if_eqB (tgt := 30) dX4_lay_13 (by decide) (fun c13 => ?_) (fun c13 => ?_)
    · refine V.iconst (v := nI 0) dX4_lay_30 (by decide) ?_
      have hr : eGr g a b K m = none := by
        first
        | (rw [eGr, begB, decide_eq_true c4]; rfl)
        | (rw [eGr, decide_eq_false (show ¬ g < 4 by have hq := of_decide_eq_false ((wi_nI (by omega) (by omega)).symm.trans c13); omega)]; simp)
      exact V.iret (by exact dX4_lay_31) rfl (bI_narrow false) (by
        rw [hr]
        exact ⟨rfl, rfl, Out.rf h w, K, cl, P, pn, hw, fun K2 e => by cases e⟩)
    · have hg4 : g ≤ 3 := of_decide_eq_true ((wi_nI (by omega) (by omega)).symm.trans c13)
      refine V.iload_n dX4_lay_16 rfl ?_
      refine V.callSv [_] dX4_lay_17 lk_X4_77 rfl (Nat.le_of_ble_eq_true rfl) (Nat.le_of_ble_eq_true rfl) (s5_isCell _ _ _ _ _) ?_
      rw [wi_nI (by omega) (by omega), decide_eq_true (show a ≤ 83 by omega)]
      refine V.if_eqB (tgt := 30) dX4_lay_20 (by decide) (fun q => absurd q (by decide)) (fun _ => ?_)
      refine V.iload_n dX4_lay_23 rfl ?_
      refine V.callSv [_] dX4_lay_24 lk_X4_77 rfl (Nat.le_of_ble_eq_true rfl) (Nat.le_of_ble_eq_true rfl) (s5_isCell _ _ _ _ _) ?_
      rw [wi_nI (by omega) (by omega), decide_eq_true (show b ≤ 83 by omega)]
      refine V.if_neB (tgt := 32) dX4_lay_27 (by decide) (fun _ => ?_) (fun q => absurd q (by decide))
      refine V.iload_n dX4_lay_32 rfl ?_
      refine V.bipush (v := nI 12) dX4_lay_33 (by decide) ?_
      refine V.iremN dX4_lay_35 (by omega) (by omega) (by omega) ?_
      refine V.iload_n dX4_lay_36 rfl ?_
      refine V.bipush (v := nI 12) dX4_lay_37 (by decide) ?_
      refine V.iremN dX4_lay_39 (by omega) (by omega) (by omega) ?_
      refine V.mmin dX4_lay_40 wm_X4_81 w_mins w_math w_minc (by omega) (Nat.le_of_ble_eq_true rfl) ?_
      rw [mn_is (by omega) (by omega)]
      refine V.ist4 dX4_lay_43 (by decide) rfl ?_
      refine V.iload_n dX4_lay_45 rfl ?_
      refine V.bipush (v := nI 12) dX4_lay_46 (by decide) ?_
      refine V.iremN dX4_lay_48 (by omega) (by omega) (by omega) ?_
      refine V.iload_n dX4_lay_49 rfl ?_
      refine V.bipush (v := nI 12) dX4_lay_50 (by decide) ?_
      refine V.iremN dX4_lay_52 (by omega) (by omega) (by omega) ?_
      refine V.mmax dX4_lay_53 wm_X4_87 w_maxs w_math w_maxc (by omega) (Nat.le_of_ble_eq_true rfl) ?_
      rw [mx_is2 (by omega) (by omega)]
      refine V.ist5 dX4_lay_56 (by decide) rfl ?_
      refine V.iload_n dX4_lay_58 rfl ?_
      refine V.bipush (v := nI 12) dX4_lay_59 (by decide) ?_
      refine V.idivN dX4_lay_61 (by omega) (by omega) (by omega) ?_
      refine V.iload_n dX4_lay_62 rfl ?_
      refine V.bipush (v := nI 12) dX4_lay_63 (by decide) ?_
      refine V.idivN dX4_lay_65 (by omega) (by omega) (by omega) ?_
      refine V.mmin dX4_lay_66 wm_X4_81 w_mins w_math w_minc (by omega) (Nat.le_of_ble_eq_true rfl) ?_
      rw [mn_is (by omega) (by omega)]
      refine V.ist6 dX4_lay_69 (by decide) rfl ?_
      refine V.iload_n dX4_lay_71 rfl ?_
      refine V.bipush (v := nI 12) dX4_lay_72 (by decide) ?_
      refine V.idivN dX4_lay_74 (by omega) (by omega) (by omega) ?_
      refine V.iload_n dX4_lay_75 rfl ?_
      refine V.bipush (v := nI 12) dX4_lay_76 (by decide) ?_
      refine V.idivN dX4_lay_78 (by omega) (by omega) (by omega) ?_
      refine V.mmax dX4_lay_79 wm_X4_87 w_maxs w_math w_maxc (by omega) (Nat.le_of_ble_eq_true rfl) ?_
      rw [mx_is2 (by omega) (by omega)]
      refine V.ist7 dX4_lay_82 (by decide) rfl ?_
      refine V.iload dX4_lay_84 rfl ?_
      refine V.ist8 dX4_lay_86 (by decide) rfl ?_
      have hx := mnx (a / 12) (b / 12)
      refine s4_lay_r l d n w K cl P pn g a b (by omega) ha hb (by rw [begB]; exact decide_eq_false c4) m hm hm10 hPR h (mx (a / 12) (b / 12) + 1 - mn (a / 12) (b / 12)) (mn (a / 12) (b / 12)) h ?_ (Out.rf h w) (fun j hj hdn => ?_) (Nat.le_refl _) (by omega)
      · have e : gK K g (dnR a b (mn (a / 12) (b / 12)) (mn (a % 12) (b % 12))) = K := by
          funext j
          unfold gK
          rw [if_neg (fun q => by have := of_decide_eq_true q.2; omega)]
        rw [e]
        exact hw
      · have := of_decide_eq_true hdn
        omega
