theorem V.callCq {l : Launch} {M : MT} {d pc : Nat} {ls : List (Option Value)} {st : List Value} {h : MH} {n c z : Nat} {Q : Option Value → MH → Nat → Prop} {N : MT} {idx k b ci w : Nat} {fs : List Value} {res : Option KK} (As : List Value) (hd : decode M.2.1 pc = .ok (.invokevirtual idx, 3)) (hk : LkV M.1.cls idx N k) (hA : As.length = k) (hlen : (ls0 (.ref b :: As)).length ≤ N.2.2.1) (hst : (st.map fun v => v.category).sum ≤ 8)
    (hb0 : h b = some (.inr (ci, fs))) (hci : (classes[ci]?).map (fun q => q.1) = some N.1.cls) (hN : Sp l N d (.ref b :: As) h n 0 0 (Cq w res h n)) (kk : ∀ h1, Cq w res h n (some (.int (bI res.isSome))) h1 n → V l M (d + 1) (pc + 3) ls (.int (bI res.isSome) :: st) h1 n c z Q) : V l M (d + 1) pc ls (As.reverse ++ .ref b :: st) h n c z Q :=
  V.callV (c := c) (z := z) As hd hk hA hlen hst hb0 hci hN (fun r h1 n1 q => by
    have q0 := q
    obtain ⟨rfl, rfl, -⟩ := q
    exact kk h1 q0)
theorem eGr_is (g a b : Nat) (K : KK) (m : Nat) : eGr g a b K m = if (begB K = false ∧ g < 4) then eG0 g a b K m else none := by
  unfold eGr eG0
  cases begB K <;> by_cases q : g < 4 <;> simp [q]
theorem ePl_is (s k f c : Nat) (K : KK) (m : Nat) (hs : s < 1000) (hk : k < 1000) : ePl (nI s) (nI k) (nI f) (nI c) K m = if begB K = false then eP0 s k f c K m else none := by
  rw [ePl_N s k f c K m hs hk]
  cases begB K <;> simp
set_option maxRecDepth 20000 in
set_option maxHeartbeats 4000000 in
theorem s1_comes_103 (l : Launch) (d : Nat) (h : MH) (n i N : Nat) (ho kd fg so : Int32) (hN : N ≤ 100) (hsh : h (62 + 2 * i) = some (.inr (3, shF ho kd fg so (nI N) (63 + 2 * i)))) (el : Nat → Int32) (hel : h (63 + 2 * i) = some (ia 100 el)) (B : Nat → Int32) (hB : ∀ k, k < 100 → B k = el k) (q : Nat) (s : Int32) (w : Nat) (K : KK) (cl P : Nat → Int32) (pn : Nat) (hw : WoodAt (CR h i q s) w K cl P pn) (hPR : PR K P pn) (m : Nat) (hT : TI K m) (p e : Nat) (hl : ltr B N p = 103) (h1 : e ≤ N) (h3 : p + 3 ≤ e) (hD : Din B N 103 p e) : Sp l mX1_comesTo (d + 4) [.ref 56, .ref w, .int (nI p), .int (nI (e - 1))] (CR h i q s) n 0 0 (Cq w (cmE 103 (nbs B 103 p e) K m) (CR h i q s) n) := by
  show V _ _ _ _ [some (.ref 56), some (.ref w), some (.int (nI p)), some (.int (nI (e - 1))), none] _ _ _ _ _ _
  obtain ⟨d1, d2, d3, d4, d5⟩ := hD
  obtain ⟨x1, x2⟩ := ltr_nz (show ltr B N p ≠ 0 by omega)
  have j1 := dgt9 d1
  refine V.aload_n dX1_comesTo_0 rfl ?_
  refine V.iload_n dX1_comesTo_1 rfl ?_
  refine V.iconst (v := nI 1) dX1_comesTo_2 (by decide) ?_
  refine V.iaddN dX1_comesTo_3 ?_
  refine V.callVv [_] dX1_comesTo_4 lk_X1_84 rfl (Nat.le_of_ble_eq_true rfl) (Nat.le_of_ble_eq_true rfl) (CR_56 _ _ _ _) rfl (s1_dig l _ h n i N ho kd fg so hN hsh el hel B hB q s (p + 1) d1) ?_
  refine V.ist4 dX1_comesTo_7 (by decide) rfl ?_
  refine V.aload_n dX1_comesTo_9 rfl ?_
  refine V.iload_n dX1_comesTo_10 rfl ?_
  refine V.callVv [_] dX1_comesTo_11 lk_X1_32 rfl (Nat.le_of_ble_eq_true rfl) (Nat.le_of_ble_eq_true rfl) (CR_56 _ _ _ _) rfl (s1_byteAt l _ h n i N ho kd fg so hN hsh el hel B hB q s p x1) ?_
  rw [x2, hl]
  refine V.tableIn (off := 78) (tgt := 92) dX1_comesTo_14 (by decide) (by decide) rfl (by decide) ?_
  obtain ⟨c1, c2, c3⟩ := d2 rfl
  rw [show cmE 103 (nbs B 103 p e) K m = eGr (dgt B 48 (p + 1)) (ce B (p + 2)) (ce B (e - 3)) K m from (eGr_is _ _ _ _ _).symm]
  refine V.aload_n dX1_comesTo_92 rfl ?_
  refine V.iload dX1_comesTo_93 rfl ?_
  refine V.aload_n dX1_comesTo_95 rfl ?_
  refine V.iload_n dX1_comesTo_96 rfl ?_
  refine V.iconst (v := nI 2) dX1_comesTo_97 (by decide) ?_
  refine V.iaddN dX1_comesTo_98 ?_
  refine V.callVv [_] dX1_comesTo_99 lk_X1_87 rfl (Nat.le_of_ble_eq_true rfl) (Nat.le_of_ble_eq_true rfl) (CR_56 _ _ _ _) rfl (s1_cell l _ h n i N ho kd fg so hN hsh el hel B hB q s (p + 2) c1) ?_
  refine V.aload_n dX1_comesTo_102 rfl ?_
  refine V.iload_n dX1_comesTo_103 rfl ?_
  refine V.iconst (v := nI 2) dX1_comesTo_104 (by decide) ?_
  refine V.isubN dX1_comesTo_105 (by omega) ?_
  rw [show e - 1 - 2 = e - 3 by omega]
  refine V.callVv [_] dX1_comesTo_106 lk_X1_87 rfl (Nat.le_of_ble_eq_true rfl) (Nat.le_of_ble_eq_true rfl) (CR_56 _ _ _ _) rfl (s1_cell l _ h n i N ho kd fg so hN hsh el hel B hB q s (e - 3) c2) ?_
  refine V.callCq [_, _, _] dX1_comesTo_109 lk_X1_90 rfl (Nat.le_of_ble_eq_true rfl) (Nat.le_of_ble_eq_true rfl) hw.1 rfl (s4_lay l _ _ n w K cl P pn hw m hT.1.1.1 hT.1.1.2.1 hPR _ _ _ j1 (ce_lt c1) (ce_lt c2)) (fun h1 hq => ?_)
  exact V.iret (by exact dX1_comesTo_112) rfl (bI_narrow _) hq
set_option maxRecDepth 20000 in
set_option maxHeartbeats 4000000 in
theorem s1_comes_114 (l : Launch) (d : Nat) (h : MH) (n i N : Nat) (ho kd fg so : Int32) (hN : N ≤ 100) (hsh : h (62 + 2 * i) = some (.inr (3, shF ho kd fg so (nI N) (63 + 2 * i)))) (el : Nat → Int32) (hel : h (63 + 2 * i) = some (ia 100 el)) (B : Nat → Int32) (hB : ∀ k, k < 100 → B k = el k) (q : Nat) (s : Int32) (w : Nat) (K : KK) (cl P : Nat → Int32) (pn : Nat) (hw : WoodAt (CR h i q s) w K cl P pn) (hPR : PR K P pn) (m : Nat) (hT : TI K m) (p e : Nat) (hl : ltr B N p = 114) (h1 : e ≤ N) (h3 : p + 3 ≤ e) (hD : Din B N 114 p e) : Sp l mX1_comesTo (d + 4) [.ref 56, .ref w, .int (nI p), .int (nI (e - 1))] (CR h i q s) n 0 0 (Cq w (cmE 114 (nbs B 114 p e) K m) (CR h i q s) n) := by
  show V _ _ _ _ [some (.ref 56), some (.ref w), some (.int (nI p)), some (.int (nI (e - 1))), none] _ _ _ _ _ _
  obtain ⟨d1, d2, d3, d4, d5⟩ := hD
  obtain ⟨x1, x2⟩ := ltr_nz (show ltr B N p ≠ 0 by omega)
  have j1 := dgt9 d1
  refine V.aload_n dX1_comesTo_0 rfl ?_
  refine V.iload_n dX1_comesTo_1 rfl ?_
  refine V.iconst (v := nI 1) dX1_comesTo_2 (by decide) ?_
  refine V.iaddN dX1_comesTo_3 ?_
  refine V.callVv [_] dX1_comesTo_4 lk_X1_84 rfl (Nat.le_of_ble_eq_true rfl) (Nat.le_of_ble_eq_true rfl) (CR_56 _ _ _ _) rfl (s1_dig l _ h n i N ho kd fg so hN hsh el hel B hB q s (p + 1) d1) ?_
  refine V.ist4 dX1_comesTo_7 (by decide) rfl ?_
  refine V.aload_n dX1_comesTo_9 rfl ?_
  refine V.iload_n dX1_comesTo_10 rfl ?_
  refine V.callVv [_] dX1_comesTo_11 lk_X1_32 rfl (Nat.le_of_ble_eq_true rfl) (Nat.le_of_ble_eq_true rfl) (CR_56 _ _ _ _) rfl (s1_byteAt l _ h n i N ho kd fg so hN hsh el hel B hB q s p x1) ?_
  rw [x2, hl]
  refine V.tableIn (off := 99) (tgt := 113) dX1_comesTo_14 (by decide) (by decide) rfl (by decide) ?_
  rw [show cmE 114 (nbs B 114 p e) K m = eRing (nI (dgt B 48 (p + 1))) K m from rfl]
  refine V.aload_n dX1_comesTo_113 rfl ?_
  refine V.iload dX1_comesTo_114 rfl ?_
  refine V.callCq [_] dX1_comesTo_116 lk_X1_95 rfl (Nat.le_of_ble_eq_true rfl) (Nat.le_of_ble_eq_true rfl) hw.1 rfl (s4_setRing l _ _ n w K cl P pn hw m hT.1 hT.hl hPR _ j1) (fun h1 hq => ?_)
  exact V.iret (by exact dX1_comesTo_119) rfl (bI_narrow _) hq
set_option maxRecDepth 20000 in
set_option maxHeartbeats 4000000 in
theorem s1_comes_101 (l : Launch) (d : Nat) (h : MH) (n i N : Nat) (ho kd fg so : Int32) (hN : N ≤ 100) (hsh : h (62 + 2 * i) = some (.inr (3, shF ho kd fg so (nI N) (63 + 2 * i)))) (el : Nat → Int32) (hel : h (63 + 2 * i) = some (ia 100 el)) (B : Nat → Int32) (hB : ∀ k, k < 100 → B k = el k) (q : Nat) (s : Int32) (w : Nat) (K : KK) (cl P : Nat → Int32) (pn : Nat) (hw : WoodAt (CR h i q s) w K cl P pn) (hPR : PR K P pn) (m : Nat) (hT : TI K m) (p e : Nat) (hl : ltr B N p = 101) (h1 : e ≤ N) (h3 : p + 3 ≤ e) (hD : Din B N 101 p e) : Sp l mX1_comesTo (d + 4) [.ref 56, .ref w, .int (nI p), .int (nI (e - 1))] (CR h i q s) n 0 0 (Cq w (cmE 101 (nbs B 101 p e) K m) (CR h i q s) n) := by
  show V _ _ _ _ [some (.ref 56), some (.ref w), some (.int (nI p)), some (.int (nI (e - 1))), none] _ _ _ _ _ _
  obtain ⟨d1, d2, d3, d4, d5⟩ := hD
  obtain ⟨x1, x2⟩ := ltr_nz (show ltr B N p ≠ 0 by omega)
  have j1 := dgt9 d1
  refine V.aload_n dX1_comesTo_0 rfl ?_
  refine V.iload_n dX1_comesTo_1 rfl ?_
  refine V.iconst (v := nI 1) dX1_comesTo_2 (by decide) ?_
  refine V.iaddN dX1_comesTo_3 ?_
  refine V.callVv [_] dX1_comesTo_4 lk_X1_84 rfl (Nat.le_of_ble_eq_true rfl) (Nat.le_of_ble_eq_true rfl) (CR_56 _ _ _ _) rfl (s1_dig l _ h n i N ho kd fg so hN hsh el hel B hB q s (p + 1) d1) ?_
  refine V.ist4 dX1_comesTo_7 (by decide) rfl ?_
  refine V.aload_n dX1_comesTo_9 rfl ?_
  refine V.iload_n dX1_comesTo_10 rfl ?_
  refine V.callVv [_] dX1_comesTo_11 lk_X1_32 rfl (Nat.le_of_ble_eq_true rfl) (Nat.le_of_ble_eq_true rfl) (CR_56 _ _ _ _) rfl (s1_byteAt l _ h n i N ho kd fg so hN hsh el hel B hB q s p x1) ?_
  rw [x2, hl]
  refine V.tableIn (off := 106) (tgt := 120) dX1_comesTo_14 (by decide) (by decide) rfl (by decide) ?_
  rw [show cmE 101 (nbs B 101 p e) K m = eRule 1 (nI (dgt B 48 (p + 1))) (nI 0) (nI 1) K from rfl]
  refine V.aload_n dX1_comesTo_120 rfl ?_
  refine V.iconst (v := nI 1) dX1_comesTo_121 (by decide) ?_
  refine V.iload dX1_comesTo_122 rfl ?_
  refine V.iconst (v := nI 0) dX1_comesTo_124 (by decide) ?_
  refine V.iconst (v := nI 1) dX1_comesTo_125 (by decide) ?_
  refine V.callCq [_, _, _, _] dX1_comesTo_126 lk_X1_98 rfl (Nat.le_of_ble_eq_true rfl) (Nat.le_of_ble_eq_true rfl) hw.1 rfl (s4_setRule l _ _ n w K cl P pn hw hPR 1 (by omega) _ _ _) (fun h1 hq => ?_)
  exact V.iret (by exact dX1_comesTo_129) rfl (bI_narrow _) hq
set_option maxRecDepth 20000 in
set_option maxHeartbeats 4000000 in
theorem s1_comes_102 (l : Launch) (d : Nat) (h : MH) (n i N : Nat) (ho kd fg so : Int32) (hN : N ≤ 100) (hsh : h (62 + 2 * i) = some (.inr (3, shF ho kd fg so (nI N) (63 + 2 * i)))) (el : Nat → Int32) (hel : h (63 + 2 * i) = some (ia 100 el)) (B : Nat → Int32) (hB : ∀ k, k < 100 → B k = el k) (q : Nat) (s : Int32) (w : Nat) (K : KK) (cl P : Nat → Int32) (pn : Nat) (hw : WoodAt (CR h i q s) w K cl P pn) (hPR : PR K P pn) (m : Nat) (hT : TI K m) (p e : Nat) (hl : ltr B N p = 102) (h1 : e ≤ N) (h3 : p + 3 ≤ e) (hD : Din B N 102 p e) : Sp l mX1_comesTo (d + 4) [.ref 56, .ref w, .int (nI p), .int (nI (e - 1))] (CR h i q s) n 0 0 (Cq w (cmE 102 (nbs B 102 p e) K m) (CR h i q s) n) := by
  show V _ _ _ _ [some (.ref 56), some (.ref w), some (.int (nI p)), some (.int (nI (e - 1))), none] _ _ _ _ _ _
  obtain ⟨d1, d2, d3, d4, d5⟩ := hD
  obtain ⟨x1, x2⟩ := ltr_nz (show ltr B N p ≠ 0 by omega)
  have j1 := dgt9 d1
  refine V.aload_n dX1_comesTo_0 rfl ?_
  refine V.iload_n dX1_comesTo_1 rfl ?_
  refine V.iconst (v := nI 1) dX1_comesTo_2 (by decide) ?_
  refine V.iaddN dX1_comesTo_3 ?_
  refine V.callVv [_] dX1_comesTo_4 lk_X1_84 rfl (Nat.le_of_ble_eq_true rfl) (Nat.le_of_ble_eq_true rfl) (CR_56 _ _ _ _) rfl (s1_dig l _ h n i N ho kd fg so hN hsh el hel B hB q s (p + 1) d1) ?_
  refine V.ist4 dX1_comesTo_7 (by decide) rfl ?_
  refine V.aload_n dX1_comesTo_9 rfl ?_
  refine V.iload_n dX1_comesTo_10 rfl ?_
  refine V.callVv [_] dX1_comesTo_11 lk_X1_32 rfl (Nat.le_of_ble_eq_true rfl) (Nat.le_of_ble_eq_true rfl) (CR_56 _ _ _ _) rfl (s1_byteAt l _ h n i N ho kd fg so hN hsh el hel B hB q s p x1) ?_
  rw [x2, hl]
  refine V.tableIn (off := 116) (tgt := 130) dX1_comesTo_14 (by decide) (by decide) rfl (by decide) ?_
  rw [show cmE 102 (nbs B 102 p e) K m = eRule 3 (nI (dgt B 48 (p + 1))) (nI 0) (nI 1) K from rfl]
  refine V.aload_n dX1_comesTo_130 rfl ?_
  refine V.iconst (v := nI 3) dX1_comesTo_131 (by decide) ?_
  refine V.iload dX1_comesTo_132 rfl ?_
  refine V.iconst (v := nI 0) dX1_comesTo_134 (by decide) ?_
  refine V.iconst (v := nI 1) dX1_comesTo_135 (by decide) ?_
  refine V.callCq [_, _, _, _] dX1_comesTo_136 lk_X1_98 rfl (Nat.le_of_ble_eq_true rfl) (Nat.le_of_ble_eq_true rfl) hw.1 rfl (s4_setRule l _ _ n w K cl P pn hw hPR 3 (by omega) _ _ _) (fun h1 hq => ?_)
  exact V.iret (by exact dX1_comesTo_139) rfl (bI_narrow _) hq
set_option maxRecDepth 20000 in
set_option maxHeartbeats 4000000 in
theorem s1_comes_108 (l : Launch) (d : Nat) (h : MH) (n i N : Nat) (ho kd fg so : Int32) (hN : N ≤ 100) (hsh : h (62 + 2 * i) = some (.inr (3, shF ho kd fg so (nI N) (63 + 2 * i)))) (el : Nat → Int32) (hel : h (63 + 2 * i) = some (ia 100 el)) (B : Nat → Int32) (hB : ∀ k, k < 100 → B k = el k) (q : Nat) (s : Int32) (w : Nat) (K : KK) (cl P : Nat → Int32) (pn : Nat) (hw : WoodAt (CR h i q s) w K cl P pn) (hPR : PR K P pn) (m : Nat) (hT : TI K m) (p e : Nat) (hl : ltr B N p = 108) (h1 : e ≤ N) (h3 : p + 3 ≤ e) (hD : Din B N 108 p e) : Sp l mX1_comesTo (d + 4) [.ref 56, .ref w, .int (nI p), .int (nI (e - 1))] (CR h i q s) n 0 0 (Cq w (cmE 108 (nbs B 108 p e) K m) (CR h i q s) n) := by
  show V _ _ _ _ [some (.ref 56), some (.ref w), some (.int (nI p)), some (.int (nI (e - 1))), none] _ _ _ _ _ _
  obtain ⟨d1, d2, d3, d4, d5⟩ := hD
  obtain ⟨x1, x2⟩ := ltr_nz (show ltr B N p ≠ 0 by omega)
  have j1 := dgt9 d1
  refine V.aload_n dX1_comesTo_0 rfl ?_
  refine V.iload_n dX1_comesTo_1 rfl ?_
  refine V.iconst (v := nI 1) dX1_comesTo_2 (by decide) ?_
  refine V.iaddN dX1_comesTo_3 ?_
  refine V.callVv [_] dX1_comesTo_4 lk_X1_84 rfl (Nat.le_of_ble_eq_true rfl) (Nat.le_of_ble_eq_true rfl) (CR_56 _ _ _ _) rfl (s1_dig l _ h n i N ho kd fg so hN hsh el hel B hB q s (p + 1) d1) ?_
  refine V.ist4 dX1_comesTo_7 (by decide) rfl ?_
  refine V.aload_n dX1_comesTo_9 rfl ?_
  refine V.iload_n dX1_comesTo_10 rfl ?_
  refine V.callVv [_] dX1_comesTo_11 lk_X1_32 rfl (Nat.le_of_ble_eq_true rfl) (Nat.le_of_ble_eq_true rfl) (CR_56 _ _ _ _) rfl (s1_byteAt l _ h n i N ho kd fg so hN hsh el hel B hB q s p x1) ?_
  rw [x2, hl]
  refine V.tableIn (off := 126) (tgt := 140) dX1_comesTo_14 (by decide) (by decide) rfl (by decide) ?_
  rw [show cmE 108 (nbs B 108 p e) K m = eRule 4 (nI (dgt B 48 (p + 1))) (nI 0) (nI 1) K from rfl]
  refine V.aload_n dX1_comesTo_140 rfl ?_
  refine V.iconst (v := nI 4) dX1_comesTo_141 (by decide) ?_
  refine V.iload dX1_comesTo_142 rfl ?_
  refine V.iconst (v := nI 0) dX1_comesTo_144 (by decide) ?_
  refine V.iconst (v := nI 1) dX1_comesTo_145 (by decide) ?_
  refine V.callCq [_, _, _, _] dX1_comesTo_146 lk_X1_98 rfl (Nat.le_of_ble_eq_true rfl) (Nat.le_of_ble_eq_true rfl) hw.1 rfl (s4_setRule l _ _ n w K cl P pn hw hPR 4 (by omega) _ _ _) (fun h1 hq => ?_)
  exact V.iret (by exact dX1_comesTo_149) rfl (bI_narrow _) hq
set_option maxRecDepth 20000 in
set_option maxHeartbeats 4000000 in
theorem s1_comes_116 (l : Launch) (d : Nat) (h : MH) (n i N : Nat) (ho kd fg so : Int32) (hN : N ≤ 100) (hsh : h (62 + 2 * i) = some (.inr (3, shF ho kd fg so (nI N) (63 + 2 * i)))) (el : Nat → Int32) (hel : h (63 + 2 * i) = some (ia 100 el)) (B : Nat → Int32) (hB : ∀ k, k < 100 → B k = el k) (q : Nat) (s : Int32) (w : Nat) (K : KK) (cl P : Nat → Int32) (pn : Nat) (hw : WoodAt (CR h i q s) w K cl P pn) (hPR : PR K P pn) (m : Nat) (hT : TI K m) (p e : Nat) (hl : ltr B N p = 116) (h1 : e ≤ N) (h3 : p + 3 ≤ e) (hD : Din B N 116 p e) : Sp l mX1_comesTo (d + 4) [.ref 56, .ref w, .int (nI p), .int (nI (e - 1))] (CR h i q s) n 0 0 (Cq w (cmE 116 (nbs B 116 p e) K m) (CR h i q s) n) := by
  show V _ _ _ _ [some (.ref 56), some (.ref w), some (.int (nI p)), some (.int (nI (e - 1))), none] _ _ _ _ _ _
  obtain ⟨d1, d2, d3, d4, d5⟩ := hD
  obtain ⟨x1, x2⟩ := ltr_nz (show ltr B N p ≠ 0 by omega)
  have j1 := dgt9 d1
  refine V.aload_n dX1_comesTo_0 rfl ?_
  refine V.iload_n dX1_comesTo_1 rfl ?_
  refine V.iconst (v := nI 1) dX1_comesTo_2 (by decide) ?_
  refine V.iaddN dX1_comesTo_3 ?_
  refine V.callVv [_] dX1_comesTo_4 lk_X1_84 rfl (Nat.le_of_ble_eq_true rfl) (Nat.le_of_ble_eq_true rfl) (CR_56 _ _ _ _) rfl (s1_dig l _ h n i N ho kd fg so hN hsh el hel B hB q s (p + 1) d1) ?_
  refine V.ist4 dX1_comesTo_7 (by decide) rfl ?_
  refine V.aload_n dX1_comesTo_9 rfl ?_
  refine V.iload_n dX1_comesTo_10 rfl ?_
  refine V.callVv [_] dX1_comesTo_11 lk_X1_32 rfl (Nat.le_of_ble_eq_true rfl) (Nat.le_of_ble_eq_true rfl) (CR_56 _ _ _ _) rfl (s1_byteAt l _ h n i N ho kd fg so hN hsh el hel B hB q s p x1) ?_
  rw [x2, hl]
  refine V.tableIn (off := 136) (tgt := 150) dX1_comesTo_14 (by decide) (by decide) rfl (by decide) ?_
  have ee := d5 (by decide)
  have ne := (nuV_lt d1).1
  rw [show cmE 116 (nbs B 116 p e) K m = eRule 2 (nI (nuV B (p + 1) (e - 2 - p))) (nI 0) (nI 100) K from rfl]
  refine V.aload_n dX1_comesTo_150 rfl ?_
  refine V.iconst (v := nI 2) dX1_comesTo_151 (by decide) ?_
  refine V.aload_n dX1_comesTo_152 rfl ?_
  refine V.iload_n dX1_comesTo_153 rfl ?_
  refine V.iconst (v := nI 1) dX1_comesTo_154 (by decide) ?_
  refine V.iaddN dX1_comesTo_155 ?_
  refine V.iload_n dX1_comesTo_156 rfl ?_
  have eq1 : e - 1 = p + 1 + (e - 2 - p) := by omega
  rw [eq1]
  refine V.callVv [_, _] dX1_comesTo_157 lk_X1_102 rfl (Nat.le_of_ble_eq_true rfl) (Nat.le_of_ble_eq_true rfl) (CR_56 _ _ _ _) rfl (s1_number l _ h n i N ho kd fg so hN hsh el hel B hB q s (p + 1) (e - 2 - p) (by omega) (fun k hk => nm_in d1 _ (by omega) (by omega))) ?_
  refine V.iconst (v := nI 0) dX1_comesTo_160 (by decide) ?_
  refine V.bipush (v := nI 100) dX1_comesTo_161 (by decide) ?_
  refine V.callCq [_, _, _, _] dX1_comesTo_163 lk_X1_98 rfl (Nat.le_of_ble_eq_true rfl) (Nat.le_of_ble_eq_true rfl) hw.1 rfl (s4_setRule l _ _ n w K cl P pn hw hPR 2 (by omega) _ _ _) (fun h1 hq => ?_)
  exact V.iret (by exact dX1_comesTo_166) rfl (bI_narrow _) hq
set_option maxRecDepth 20000 in
set_option maxHeartbeats 4000000 in
theorem s1_comes_104 (l : Launch) (d : Nat) (h : MH) (n i N : Nat) (ho kd fg so : Int32) (hN : N ≤ 100) (hsh : h (62 + 2 * i) = some (.inr (3, shF ho kd fg so (nI N) (63 + 2 * i)))) (el : Nat → Int32) (hel : h (63 + 2 * i) = some (ia 100 el)) (B : Nat → Int32) (hB : ∀ k, k < 100 → B k = el k) (q : Nat) (s : Int32) (w : Nat) (K : KK) (cl P : Nat → Int32) (pn : Nat) (hw : WoodAt (CR h i q s) w K cl P pn) (hPR : PR K P pn) (m : Nat) (hT : TI K m) (p e : Nat) (hl : ltr B N p = 104) (h1 : e ≤ N) (h3 : p + 3 ≤ e) (hD : Din B N 104 p e) : Sp l mX1_comesTo (d + 4) [.ref 56, .ref w, .int (nI p), .int (nI (e - 1))] (CR h i q s) n 0 0 (Cq w (cmE 104 (nbs B 104 p e) K m) (CR h i q s) n) := by
  show V _ _ _ _ [some (.ref 56), some (.ref w), some (.int (nI p)), some (.int (nI (e - 1))), none] _ _ _ _ _ _
  obtain ⟨d1, d2, d3, d4, d5⟩ := hD
  obtain ⟨x1, x2⟩ := ltr_nz (show ltr B N p ≠ 0 by omega)
  have j1 := dgt9 d1
  refine V.aload_n dX1_comesTo_0 rfl ?_
  refine V.iload_n dX1_comesTo_1 rfl ?_
  refine V.iconst (v := nI 1) dX1_comesTo_2 (by decide) ?_
  refine V.iaddN dX1_comesTo_3 ?_
  refine V.callVv [_] dX1_comesTo_4 lk_X1_84 rfl (Nat.le_of_ble_eq_true rfl) (Nat.le_of_ble_eq_true rfl) (CR_56 _ _ _ _) rfl (s1_dig l _ h n i N ho kd fg so hN hsh el hel B hB q s (p + 1) d1) ?_
  refine V.ist4 dX1_comesTo_7 (by decide) rfl ?_
  refine V.aload_n dX1_comesTo_9 rfl ?_
  refine V.iload_n dX1_comesTo_10 rfl ?_
  refine V.callVv [_] dX1_comesTo_11 lk_X1_32 rfl (Nat.le_of_ble_eq_true rfl) (Nat.le_of_ble_eq_true rfl) (CR_56 _ _ _ _) rfl (s1_byteAt l _ h n i N ho kd fg so hN hsh el hel B hB q s p x1) ?_
  rw [x2, hl]
  refine V.tableIn (off := 153) (tgt := 167) dX1_comesTo_14 (by decide) (by decide) rfl (by decide) ?_
  have ee := d5 (by decide)
  have ne := (nuV_lt d1).1
  rw [show cmE 104 (nbs B 104 p e) K m = eRule 5 (nI (nuV B (p + 1) (e - 2 - p))) (nI 10) (nI 600) K from rfl]
  refine V.aload_n dX1_comesTo_167 rfl ?_
  refine V.iconst (v := nI 5) dX1_comesTo_168 (by decide) ?_
  refine V.aload_n dX1_comesTo_169 rfl ?_
  refine V.iload_n dX1_comesTo_170 rfl ?_
  refine V.iconst (v := nI 1) dX1_comesTo_171 (by decide) ?_
  refine V.iaddN dX1_comesTo_172 ?_
  refine V.iload_n dX1_comesTo_173 rfl ?_
  have eq1 : e - 1 = p + 1 + (e - 2 - p) := by omega
  rw [eq1]
  refine V.callVv [_, _] dX1_comesTo_174 lk_X1_102 rfl (Nat.le_of_ble_eq_true rfl) (Nat.le_of_ble_eq_true rfl) (CR_56 _ _ _ _) rfl (s1_number l _ h n i N ho kd fg so hN hsh el hel B hB q s (p + 1) (e - 2 - p) (by omega) (fun k hk => nm_in d1 _ (by omega) (by omega))) ?_
  refine V.bipush (v := nI 10) dX1_comesTo_177 (by decide) ?_
  refine V.sipush (v := nI 600) dX1_comesTo_179 (by decide) ?_
  refine V.callCq [_, _, _, _] dX1_comesTo_182 lk_X1_98 rfl (Nat.le_of_ble_eq_true rfl) (Nat.le_of_ble_eq_true rfl) hw.1 rfl (s4_setRule l _ _ n w K cl P pn hw hPR 5 (by omega) _ _ _) (fun h1 hq => ?_)
  exact V.iret (by exact dX1_comesTo_185) rfl (bI_narrow _) hq
set_option maxRecDepth 20000 in
set_option maxHeartbeats 4000000 in
theorem s1_comes_112 (l : Launch) (d : Nat) (h : MH) (n i N : Nat) (ho kd fg so : Int32) (hN : N ≤ 100) (hsh : h (62 + 2 * i) = some (.inr (3, shF ho kd fg so (nI N) (63 + 2 * i)))) (el : Nat → Int32) (hel : h (63 + 2 * i) = some (ia 100 el)) (B : Nat → Int32) (hB : ∀ k, k < 100 → B k = el k) (q : Nat) (s : Int32) (w : Nat) (K : KK) (cl P : Nat → Int32) (pn : Nat) (hw : WoodAt (CR h i q s) w K cl P pn) (hPR : PR K P pn) (m : Nat) (hT : TI K m) (p e : Nat) (hl : ltr B N p = 112) (h1 : e ≤ N) (h3 : p + 3 ≤ e) (hD : Din B N 112 p e) : Sp l mX1_comesTo (d + 4) [.ref 56, .ref w, .int (nI p), .int (nI (e - 1))] (CR h i q s) n 0 0 (Cq w (cmE 112 (nbs B 112 p e) K m) (CR h i q s) n) := by
  show V _ _ _ _ [some (.ref 56), some (.ref w), some (.int (nI p)), some (.int (nI (e - 1))), none] _ _ _ _ _ _
  obtain ⟨d1, d2, d3, d4, d5⟩ := hD
  obtain ⟨x1, x2⟩ := ltr_nz (show ltr B N p ≠ 0 by omega)
  have j1 := dgt9 d1
  refine V.aload_n dX1_comesTo_0 rfl ?_
  refine V.iload_n dX1_comesTo_1 rfl ?_
  refine V.iconst (v := nI 1) dX1_comesTo_2 (by decide) ?_
  refine V.iaddN dX1_comesTo_3 ?_
  refine V.callVv [_] dX1_comesTo_4 lk_X1_84 rfl (Nat.le_of_ble_eq_true rfl) (Nat.le_of_ble_eq_true rfl) (CR_56 _ _ _ _) rfl (s1_dig l _ h n i N ho kd fg so hN hsh el hel B hB q s (p + 1) d1) ?_
  refine V.ist4 dX1_comesTo_7 (by decide) rfl ?_
  refine V.aload_n dX1_comesTo_9 rfl ?_
  refine V.iload_n dX1_comesTo_10 rfl ?_
  refine V.callVv [_] dX1_comesTo_11 lk_X1_32 rfl (Nat.le_of_ble_eq_true rfl) (Nat.le_of_ble_eq_true rfl) (CR_56 _ _ _ _) rfl (s1_byteAt l _ h n i N ho kd fg so hN hsh el hel B hB q s p x1) ?_
  rw [x2, hl]
  refine V.tableIn (off := 172) (tgt := 186) dX1_comesTo_14 (by decide) (by decide) rfl (by decide) ?_
  obtain ⟨c1, c2, c3⟩ := d3 rfl
  have j2 := dgt9 c1
  rw [show cmE 112 (nbs B 112 p e) K m = ePl (nI (dgt B 48 (p + 1))) (nI (dgt B 48 (p + 2))) (nI (dgt B 48 (p + 3))) (nI (ce B (p + 4))) K m from (ePl_is (dgt B 48 (p + 1)) (dgt B 48 (p + 2)) (dgt B 48 (p + 3)) (ce B (p + 4)) K m (by omega) (by omega)).symm]
  refine V.aload_n dX1_comesTo_186 rfl ?_
  refine V.iload dX1_comesTo_187 rfl ?_
  refine V.aload_n dX1_comesTo_189 rfl ?_
  refine V.iload_n dX1_comesTo_190 rfl ?_
  refine V.iconst (v := nI 2) dX1_comesTo_191 (by decide) ?_
  refine V.iaddN dX1_comesTo_192 ?_
  refine V.callVv [_] dX1_comesTo_193 lk_X1_84 rfl (Nat.le_of_ble_eq_true rfl) (Nat.le_of_ble_eq_true rfl) (CR_56 _ _ _ _) rfl (s1_dig l _ h n i N ho kd fg so hN hsh el hel B hB q s (p + 2) c1) ?_
  refine V.aload_n dX1_comesTo_196 rfl ?_
  refine V.iload_n dX1_comesTo_197 rfl ?_
  refine V.iconst (v := nI 3) dX1_comesTo_198 (by decide) ?_
  refine V.iaddN dX1_comesTo_199 ?_
  refine V.callVv [_] dX1_comesTo_200 lk_X1_84 rfl (Nat.le_of_ble_eq_true rfl) (Nat.le_of_ble_eq_true rfl) (CR_56 _ _ _ _) rfl (s1_dig l _ h n i N ho kd fg so hN hsh el hel B hB q s (p + 3) c2) ?_
  refine V.aload_n dX1_comesTo_203 rfl ?_
  refine V.iload_n dX1_comesTo_204 rfl ?_
  refine V.iconst (v := nI 4) dX1_comesTo_205 (by decide) ?_
  refine V.iaddN dX1_comesTo_206 ?_
  refine V.callVv [_] dX1_comesTo_207 lk_X1_87 rfl (Nat.le_of_ble_eq_true rfl) (Nat.le_of_ble_eq_true rfl) (CR_56 _ _ _ _) rfl (s1_cell l _ h n i N ho kd fg so hN hsh el hel B hB q s (p + 4) c3) ?_
  refine V.callCq [_, _, _, _] dX1_comesTo_210 lk_X1_106 rfl (Nat.le_of_ble_eq_true rfl) (Nat.le_of_ble_eq_true rfl) hw.1 rfl (s4_addPlayer l _ _ n w K cl P pn hw m hT.1.1.1 hT.1.1.2.1 hT.2.1 hPR _ _ _ _ (ce_lt c3)) (fun h1 hq => ?_)
  exact V.iret (by exact dX1_comesTo_213) rfl (bI_narrow _) hq
set_option maxRecDepth 20000 in
set_option maxHeartbeats 4000000 in
theorem s1_comes_99 (l : Launch) (d : Nat) (h : MH) (n i N : Nat) (ho kd fg so : Int32) (hN : N ≤ 100) (hsh : h (62 + 2 * i) = some (.inr (3, shF ho kd fg so (nI N) (63 + 2 * i)))) (el : Nat → Int32) (hel : h (63 + 2 * i) = some (ia 100 el)) (B : Nat → Int32) (hB : ∀ k, k < 100 → B k = el k) (q : Nat) (s : Int32) (w : Nat) (K : KK) (cl P : Nat → Int32) (pn : Nat) (hw : WoodAt (CR h i q s) w K cl P pn) (hPR : PR K P pn) (m : Nat) (hT : TI K m) (p e : Nat) (hl : ltr B N p = 99) (h1 : e ≤ N) (h3 : p + 3 ≤ e) (hD : Din B N 99 p e) : Sp l mX1_comesTo (d + 4) [.ref 56, .ref w, .int (nI p), .int (nI (e - 1))] (CR h i q s) n 0 0 (Cq w (cmE 99 (nbs B 99 p e) K m) (CR h i q s) n) := by
  show V _ _ _ _ [some (.ref 56), some (.ref w), some (.int (nI p)), some (.int (nI (e - 1))), none] _ _ _ _ _ _
  obtain ⟨d1, d2, d3, d4, d5⟩ := hD
  obtain ⟨x1, x2⟩ := ltr_nz (show ltr B N p ≠ 0 by omega)
  have j1 := dgt9 d1
  refine V.aload_n dX1_comesTo_0 rfl ?_
  refine V.iload_n dX1_comesTo_1 rfl ?_
  refine V.iconst (v := nI 1) dX1_comesTo_2 (by decide) ?_
  refine V.iaddN dX1_comesTo_3 ?_
  refine V.callVv [_] dX1_comesTo_4 lk_X1_84 rfl (Nat.le_of_ble_eq_true rfl) (Nat.le_of_ble_eq_true rfl) (CR_56 _ _ _ _) rfl (s1_dig l _ h n i N ho kd fg so hN hsh el hel B hB q s (p + 1) d1) ?_
  refine V.ist4 dX1_comesTo_7 (by decide) rfl ?_
  refine V.aload_n dX1_comesTo_9 rfl ?_
  refine V.iload_n dX1_comesTo_10 rfl ?_
  refine V.callVv [_] dX1_comesTo_11 lk_X1_32 rfl (Nat.le_of_ble_eq_true rfl) (Nat.le_of_ble_eq_true rfl) (CR_56 _ _ _ _) rfl (s1_byteAt l _ h n i N ho kd fg so hN hsh el hel B hB q s p x1) ?_
  rw [x2, hl]
  refine V.tableOut (tgt := 214) dX1_comesTo_14 (Or.inl (by decide)) (by decide) ?_
  obtain ⟨c1, c2, c3⟩ := d4 rfl
  have j2 := dgt9 c1
  have j3 := dgt9 c2
  rw [show cmE 99 (nbs B 99 p e) K m = ePn (nI (dgt B 48 (p + 1))) (nI (dgt B 48 (p + 2))) (nI (dgt B 48 (p + 3))) (nI (dgt B 48 (p + 4))) K from (ePn_N (dgt B 48 (p + 1)) (dgt B 48 (p + 2)) (dgt B 48 (p + 3)) (dgt B 48 (p + 4)) K (by omega) (by omega) (by omega)).symm]
  refine V.aload_n dX1_comesTo_214 rfl ?_
  refine V.iload dX1_comesTo_215 rfl ?_
  refine V.aload_n dX1_comesTo_217 rfl ?_
  refine V.iload_n dX1_comesTo_218 rfl ?_
  refine V.iconst (v := nI 2) dX1_comesTo_219 (by decide) ?_
  refine V.iaddN dX1_comesTo_220 ?_
  refine V.callVv [_] dX1_comesTo_221 lk_X1_84 rfl (Nat.le_of_ble_eq_true rfl) (Nat.le_of_ble_eq_true rfl) (CR_56 _ _ _ _) rfl (s1_dig l _ h n i N ho kd fg so hN hsh el hel B hB q s (p + 2) c1) ?_
  refine V.aload_n dX1_comesTo_224 rfl ?_
  refine V.iload_n dX1_comesTo_225 rfl ?_
  refine V.iconst (v := nI 3) dX1_comesTo_226 (by decide) ?_
  refine V.iaddN dX1_comesTo_227 ?_
  refine V.callVv [_] dX1_comesTo_228 lk_X1_84 rfl (Nat.le_of_ble_eq_true rfl) (Nat.le_of_ble_eq_true rfl) (CR_56 _ _ _ _) rfl (s1_dig l _ h n i N ho kd fg so hN hsh el hel B hB q s (p + 3) c2) ?_
  refine V.aload_n dX1_comesTo_231 rfl ?_
  refine V.iload_n dX1_comesTo_232 rfl ?_
  refine V.iconst (v := nI 4) dX1_comesTo_233 (by decide) ?_
  refine V.iaddN dX1_comesTo_234 ?_
  refine V.callVv [_] dX1_comesTo_235 lk_X1_84 rfl (Nat.le_of_ble_eq_true rfl) (Nat.le_of_ble_eq_true rfl) (CR_56 _ _ _ _) rfl (s1_dig l _ h n i N ho kd fg so hN hsh el hel B hB q s (p + 4) c3) ?_
  refine V.callCq [_, _, _, _] dX1_comesTo_238 lk_X1_109 rfl (Nat.le_of_ble_eq_true rfl) (Nat.le_of_ble_eq_true rfl) hw.1 rfl (s4_addPlan l _ _ n w K cl P pn hw hPR _ _ _ _) (fun h1 hq => ?_)
  exact V.iret (by exact dX1_comesTo_241) rfl (bI_narrow _) hq
theorem s1_comesTo (l : Launch) (d : Nat) (hh : MH) (n i N : Nat) (ho kd fg so : Int32) (hN : N ≤ 100) (hsh : hh (62 + 2 * i) = some (.inr (3, shF ho kd fg so (nI N) (63 + 2 * i)))) (el : Nat → Int32) (hel : hh (63 + 2 * i) = some (ia 100 el)) (B : Nat → Int32) (hB : ∀ k, k < 100 → B k = el k) (q : Nat) (s : Int32) (w : Nat) (K : KK) (cl P : Nat → Int32) (pn : Nat) (hw : WoodAt (CR hh i q s) w K cl P pn) (hPR : PR K P pn) (m : Nat) (hT : TI K m) (p : Nat) (h : (stR B N p).1 = true) : Sp l mX1_comesTo (d + 4) [.ref 56, .ref w, .int (nI p), .int (nI ((stR B N p).2 - 1))] (CR hh i q s) n 0 0 (Cq w (cmE (ltr B N p) (nbs B (ltr B N p) p (stR B N p).2) K m) (CR hh i q s) n) := by
  obtain ⟨⟨b1, b2, b3, b4⟩, hl⟩ := stR_pp h
  have hD := stR_din h
  have h3 : p + 3 ≤ (stR B N p).2 := by
    have z := (inB_ex (by omega) (by omega) hD.1)
    have z0 := (inB_ex (by omega) (by omega) b3)
    have zl := ltr_nz (show ltr B N p ≠ 0 by omega)
    have y : ∀ k, (stR B N p).2 - 1 = k → B k = nI 59 := fun k e => by rw [← e]; have := z0.2.2.1; have w2 := z0.2.2.2; rw [show 59 + dgt B 59 ((stR B N p).2 - 1) = 59 by omega] at this; exact this
    have n1 : (stR B N p).2 - 1 ≠ p := fun e => by
      have w1 := zl.2.symm.trans (y p e)
      have lt1 : ltr B N p < 1000 := by omega
      have := (nI_eq (by omega) (by omega)).mp w1
      omega
    have n2 : (stR B N p).2 - 1 ≠ p + 1 := fun e => by
      have w1 := z.2.2.1.symm.trans (y _ e)
      have := (nI_eq (by omega) (by omega)).mp w1
      omega
    omega
  generalize hc : ltr B N p = c at hl hD ⊢
  rcases hl with rfl | rfl | rfl | rfl | rfl | rfl | rfl | rfl | rfl
  · exact s1_comes_103 l d hh n i N ho kd fg so hN hsh el hel B hB q s w K cl P pn hw hPR m hT p (stR B N p).2 hc b2 h3 hD
  · exact s1_comes_114 l d hh n i N ho kd fg so hN hsh el hel B hB q s w K cl P pn hw hPR m hT p (stR B N p).2 hc b2 h3 hD
  · exact s1_comes_101 l d hh n i N ho kd fg so hN hsh el hel B hB q s w K cl P pn hw hPR m hT p (stR B N p).2 hc b2 h3 hD
  · exact s1_comes_102 l d hh n i N ho kd fg so hN hsh el hel B hB q s w K cl P pn hw hPR m hT p (stR B N p).2 hc b2 h3 hD
  · exact s1_comes_108 l d hh n i N ho kd fg so hN hsh el hel B hB q s w K cl P pn hw hPR m hT p (stR B N p).2 hc b2 h3 hD
  · exact s1_comes_116 l d hh n i N ho kd fg so hN hsh el hel B hB q s w K cl P pn hw hPR m hT p (stR B N p).2 hc b2 h3 hD
  · exact s1_comes_104 l d hh n i N ho kd fg so hN hsh el hel B hB q s w K cl P pn hw hPR m hT p (stR B N p).2 hc b2 h3 hD
  · exact s1_comes_112 l d hh n i N ho kd fg so hN hsh el hel B hB q s w K cl P pn hw hPR m hT p (stR B N p).2 hc b2 h3 hD
  · exact s1_comes_99 l d hh n i N ho kd fg so hN hsh el hel B hB q s w K cl P pn hw hPR m hT p (stR B N p).2 hc b2 h3 hD
