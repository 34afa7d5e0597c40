theorem RH_o {h : MH} {b0 : Bool} {th : Int32} {i N p t : Nat} {NB : Nat → Int32} {q : Nat} {x : MC} (h1 : q ≠ 78) (h2 : q ≠ 89) : RH (hset h q x) b0 th i N p t NB = hset (RH h b0 th i N p t NB) q x := by
  rw [RH, hset_comm _ _ _ h1, hset_comm _ _ _ h2, RH]
set_option maxRecDepth 20000 in
set_option maxHeartbeats 4000000 in
theorem m_text_1 (l : Launch) (d : Nat) (h : MH) (n : Nat) (b0 : Bool) (th : Int32) (i N : Nat) (hi : i < 8) (hN : N ≤ 100) (X : Nat → Int32) (hx : h 86 = some (ia 800 X)) (B : Nat → Int32) (hB : ∀ k, k < 100 → B k = X (100 * i + k)) (x : Int32) {Q : Option Value → MH → Nat → Prop} : ∀ (r p t : Nat) (NB : Nat → Int32) (c : Nat), p ≤ N → N < p + r → ((txS B N r p).1 = false → ∀ t NB, Q (some (.int (-1000 - nI (txS B N r p).2.1))) (RH h b0 th i N (txS B N r p).2.1 t NB) n) → ((txS B N r p).1 = true → ∀ p1 t NB, V l mX6_text (d + 7) 68 [some (.ref 78), some (.int x), some (.int (nI 0)), some (.int (nI (c + (txS B N r p).2.2))), none, none, none] [] (RH h b0 th i N p1 t NB) n 0 0 Q) → V l mX6_text (d + 7) 38 [some (.ref 78), some (.int x), some (.int (nI 0)), some (.int (nI (c))), none, none, none] [] (RH h b0 th i N p t NB) n 0 0 Q := by
  intro r
  induction r with
  | zero => intro p t NB c h1 h2; omega
  | succ r ih =>
    intro p t NB c hp1 hp2 kf kt
    refine V.aload_n dX6_text_38 rfl ?_
    refine V.callRq [] dX6_text_39 lk_X6_163 rfl (Nat.le_of_ble_eq_true rfl) (Nat.le_of_ble_eq_true rfl) rfl (s6_readsStatement l _ h n b0 th i N hi hN X hx B hB p t NB (by omega)) (fun t1 NB1 g => ?_)
    refine V.if_neB (tgt := 54) dX6_text_42 (by decide) (fun q => ?_) (fun q => ?_)
    · have hpp := (stR_pp q).1
      refine V.inN3 dX6_text_54 (by decide) rfl ?_
      refine V.aload_n dX6_text_57 rfl ?_
      refine V.getf dX6_text_58 fl_X6_90 (RH_78 _ _ _ _ _ _ _ _) rfl ?_
      refine V.aload_n dX6_text_61 rfl ?_
      refine V.getf dX6_text_62 fl_X6_93 (RH_78 _ _ _ _ _ _ _ _) rfl ?_
      have b1 := hpp.1
      have b2 := hpp.2.1
      refine V.icmp_ltN (tgt := 38) dX6_text_65 (by decide) (by omega) (by omega) (fun y => ?_) (fun y => ?_)
      · refine ih _ t1 NB1 (c + 1) (by omega) (by omega) (fun z => kf (by rw [txS, if_pos q, if_pos y]; exact z) |> fun w => by rw [txS, if_pos q, if_pos y] at w; exact w) (fun z => by
          have w := kt (by rw [txS, if_pos q, if_pos y]; exact z)
          rw [txS, if_pos q, if_pos y] at w
          rw [show c + 1 + (txS B N r (stR B N p).2).2.2 = c + ((txS B N r (stR B N p).2).2.2 + 1) by omega]
          exact w)
      · have w := kt (by rw [txS, if_pos q, if_neg (by omega)])
        rw [txS, if_pos q, if_neg (by omega)] at w
        exact w _ t1 NB1
    · have w := kf (by rw [txS, if_neg (by rw [q]; decide)])
      rw [txS, if_neg (by rw [q]; decide)] at w
      refine V.sipush (v := -1000) dX6_text_45 (by decide) ?_
      refine V.aload_n dX6_text_48 rfl ?_
      refine V.getf dX6_text_49 fl_X6_90 (RH_78 _ _ _ _ _ _ _ _) rfl ?_
      refine V.isub dX6_text_52 ?_
      exact V.iret (by exact dX6_text_53) rfl rfl (w t1 NB1)
set_option maxRecDepth 20000 in
set_option maxHeartbeats 4000000 in
theorem m_text_2 (l : Launch) (d : Nat) (h : MH) (n : Nat) (b0 : Bool) (th : Int32) (i N : Nat) (hi : i < 8) (hN : N ≤ 100) (X : Nat → Int32) (hx : h 86 = some (ia 800 X)) (B : Nat → Int32) (hB : ∀ k, k < 100 → B k = X (100 * i + k)) (x : Int32) (c : Nat) {Q : Option Value → MH → Nat → Prop} : ∀ (r p : Nat) (K : KK) (m t : Nat) (NB : Nat → Int32), TI K m → wel B N r p → p ≤ N → N < p + r → (∀ a, txE B N r p K = .inl a → ∀ p1 t NB X, Q (some (.int (-2000 - nI a))) (hset (RH h b0 th i N p1 t NB) 82 (kc X)) n) → (∀ K1 m1, txE B N r p K = .inr K1 → TI K1 m1 → ∀ p1 t NB, V l mX6_text (d + 7) 152 [some (.ref 78), some (.int x), some (.int (nI 0)), some (.int (nI (c))), none, none, none] [] (hset (RH h b0 th i N p1 t NB) 82 (kc K1)) n 0 0 Q) → V l mX6_text (d + 7) 104 [some (.ref 78), some (.int x), some (.int (nI 0)), some (.int (nI (c))), none, none, none] [] (hset (RH h b0 th i N p t NB) 82 (kc K)) n 0 0 Q := by
  intro r
  induction r with
  | zero => intro p K m t NB _ _ h1 h2; omega
  | succ r ih =>
    intro p K m t NB hT hw hp1 hp2 kl kr
    refine V.aload_n dX6_text_104 rfl ?_
    refine V.getf dX6_text_105 fl_X6_90 (o_ne (RH_78 _ _ _ _ _ _ _ _) (by decide)) rfl ?_
    refine V.aload_n dX6_text_108 rfl ?_
    refine V.getf dX6_text_109 fl_X6_93 (o_ne (RH_78 _ _ _ _ _ _ _ _) (by decide)) rfl ?_
    refine V.icmp_geN (tgt := 152) dX6_text_112 (by decide) (by omega) (by omega) (fun y => ?_) (fun y => ?_)
    · exact kr K m (by rw [txE, if_neg (by omega)]) hT p t NB
    obtain ⟨q, hw2⟩ := hw y
    obtain ⟨hpp, hlt⟩ := stR_pp q
    have b1 := hpp.1
    have b2 := hpp.2.1
    obtain ⟨x1, x2⟩ := ltr_nz (show ltr B N p ≠ 0 by omega)
    refine V.aload_n dX6_text_115 rfl ?_
    refine V.getf dX6_text_116 fl_X6_90 (o_ne (RH_78 _ _ _ _ _ _ _ _) (by decide)) rfl ?_
    refine V.ist4 dX6_text_119 (by decide) rfl ?_
    refine V.aload_n dX6_text_121 rfl ?_
    rw [← RH_o (by decide) (by decide)]
    refine V.callVv [] dX6_text_122 lk_X6_99 rfl (Nat.le_of_ble_eq_true rfl) (Nat.le_of_ble_eq_true rfl) (RH_78 _ _ _ _ _ _ _ _) rfl (s6_here l _ (hset h 82 (kc K)) n b0 th i N hi hN X (o_ne hx (by decide)) B hB p _ _ (by omega)) ?_
    rw [hb, if_pos y, x2]
    refine V.ist5 dX6_text_125 (by decide) rfl ?_
    refine V.aload_n dX6_text_127 rfl ?_
    refine V.callRq [] dX6_text_128 lk_X6_163 rfl (Nat.le_of_ble_eq_true rfl) (Nat.le_of_ble_eq_true rfl) rfl (s6_readsStatement l _ (hset h 82 (kc K)) n b0 th i N hi hN X (o_ne hx (by decide)) B hB p t NB (by omega)) (fun t1 NB1 g => ?_)
    refine V.ist6 dX6_text_131 (by decide) rfl ?_
    obtain ⟨nb, g1, g2, g3⟩ := g q
    rw [RH_o (by decide) (by decide)]
    refine V.aload_n dX6_text_133 rfl ?_
    refine V.iload dX6_text_134 rfl ?_
    refine V.callVM [_] dX6_text_136 lk_X6_166 rfl (Nat.le_of_ble_eq_true rfl) (Nat.le_of_ble_eq_true rfl) (o_ne (RH_78 _ _ _ _ _ _ _ _) (by decide)) rfl (s6_comes l _ (RH h b0 th i N (stR B N p).2 t1 NB1) n b0 th _ _ _ _ (RH_78 _ _ _ _ _ _ _ _) NB1 (RH_89 _ _ _ _ _ _ _ _) nb g1 K m hT.1.1.1 hT.1.1.2.1 hT.hl hT.1.1.2.2.2.2.2.2.2 hT.1.1.2.2.2.1 (ltr B N p) g2) (fun K1 hK1 => ?_)
    have hmo : mOf K = m := by rw [mOf, hT.1.1.1, clampI (by have := hT.1.1.2.1; omega)]
    have hg3 := g3 K m
    refine V.if_neB (tgt := 149) dX6_text_139 (by decide) (fun z => ?_) (fun z => ?_)
    · obtain ⟨K2, e2⟩ := Option.isSome_iff_exists.mp z
      have e3 := hK1 K2 e2
      subst e3
      obtain ⟨m1, hT1⟩ := TI_cm hT g2 e2
      rw [hg3] at e2
      have et : txE B N (r + 1) p K = txE B N r (stR B N p).2 K1 := by rw [txE, if_pos y, hmo, e2]
      refine V.goto (tgt := 104) dX6_text_149 (by decide) ?_
      exact V.drop 4 (V.drop 5 (V.drop 6 (ih _ K1 m1 t1 NB1 hT1 hw2 b2 (by omega) (fun a w => kl a (et.trans w)) (fun K3 m3 w => kr K3 m3 (et.trans w)))))
    · have e2 : cmE (ltr B N p) nb K m = none := by
        cases w : cmE (ltr B N p) nb K m with
        | none => rfl
        | some K2 => rw [w] at z; cases z
      rw [hg3] at e2
      refine V.sipush (v := -2000) dX6_text_142 (by decide) ?_
      refine V.iload dX6_text_145 rfl ?_
      refine V.isub dX6_text_147 ?_
      exact V.iret (by exact dX6_text_148) rfl rfl (kl p (by rw [txE, if_pos y, hmo, e2]) _ t1 NB1 K1)
set_option maxRecDepth 20000 in
set_option maxHeartbeats 4000000 in
theorem m_text_c1 (l : Launch) (d n : Nat) (h : MH) (K : KK) (b : Bool) (th po ba en tt : Int32) (x : Int32) (c : Nat) (hm0 : h 78 = some (.inr (6, moF b th po ba en tt))) (hs : h 79 = some (kc K)) {Q : Option Value → MH → Nat → Prop} (kk : V l mX6_text d 99 [some (.ref 78), some (.int x), some (.int (nI 0)), some (.int (nI c)), none, none, none] [] (hset h 82 (kc K)) n 0 0 Q) : ∀ (r i : Nat) (X : KK), (∀ j, j < i → X j = K j) → i + r = 184 → V l mX6_text d 71 [some (.ref 78), some (.int x), some (.int (nI 0)), some (.int (nI c)), some (.int (nI i)), none, none] [] (hset h 82 (kc X)) n 0 0 Q := by
  intro r
  induction r with
  | zero =>
    intro i X hX hi
    refine V.iload dX6_text_71 rfl ?_
    refine V.sipush (v := nI 184) dX6_text_73 (by decide) ?_
    refine V.icmp_geN (tgt := 99) dX6_text_76 (by decide) (by omega) (by omega) (fun _ => ?_) (fun q => absurd q (by omega))
    refine V.drop 4 (V.ext (g := K) (hset_self _ _ _) (fun j hj => (hX j (by omega)).symm) ?_)
    rw [hset_hset]
    exact kk
  | succ r ih =>
    intro i X hX hi
    refine V.iload dX6_text_71 rfl ?_
    refine V.sipush (v := nI 184) dX6_text_73 (by decide) ?_
    refine V.icmp_geN (tgt := 99) dX6_text_76 (by decide) (by omega) (by omega) (fun q => absurd q (by omega)) (fun _ => ?_)
    refine V.aload_n dX6_text_79 rfl ?_
    refine V.getf dX6_text_80 fl_X6_19 (o_ne hm0 (by decide)) rfl ?_
    refine V.iload dX6_text_83 rfl ?_
    refine V.aload_n dX6_text_85 rfl ?_
    refine V.getf dX6_text_86 fl_X6_9 (o_ne hm0 (by decide)) rfl ?_
    refine V.iload dX6_text_89 rfl ?_
    refine V.ialdN dX6_text_91 (o_ne hs (by decide)) (by omega) (by decide) ?_
    refine V.iastN dX6_text_92 (hset_self _ _ _) (by omega) (by decide) ?_
    rw [hset_hset]
    refine V.inN4 dX6_text_93 (by decide) rfl ?_
    refine V.goto (tgt := 71) dX6_text_96 (by decide) ?_
    refine ih (i + 1) _ (fun j hj => ?_) (by omega)
    by_cases y : j = i
    · subst y; rw [pk_us]
    · rw [pk_un y]; exact hX j (by omega)
set_option maxRecDepth 20000 in
set_option maxHeartbeats 4000000 in
theorem m_text_c2 (l : Launch) (d n : Nat) (h : MH) (K : KK) (b : Bool) (th po ba en tt : Int32) (x : Int32) (c : Nat) (hm0 : h 78 = some (.inr (6, moF b th po ba en tt))) (hs : h 82 = some (kc K)) {Q : Option Value → MH → Nat → Prop} (kk : V l mX6_text d 183 [some (.ref 78), some (.int x), some (.int (nI 0)), some (.int (nI c)), none, none, none] [] (hset h 79 (kc K)) n 0 0 Q) : ∀ (r i : Nat) (X : KK), (∀ j, j < i → X j = K j) → i + r = 184 → V l mX6_text d 155 [some (.ref 78), some (.int x), some (.int (nI 0)), some (.int (nI c)), some (.int (nI i)), none, none] [] (hset h 79 (kc X)) n 0 0 Q := by
  intro r
  induction r with
  | zero =>
    intro i X hX hi
    refine V.iload dX6_text_155 rfl ?_
    refine V.sipush (v := nI 184) dX6_text_157 (by decide) ?_
    refine V.icmp_geN (tgt := 183) dX6_text_160 (by decide) (by omega) (by omega) (fun _ => ?_) (fun q => absurd q (by omega))
    refine V.drop 4 (V.ext (g := K) (hset_self _ _ _) (fun j hj => (hX j (by omega)).symm) ?_)
    rw [hset_hset]
    exact kk
  | succ r ih =>
    intro i X hX hi
    refine V.iload dX6_text_155 rfl ?_
    refine V.sipush (v := nI 184) dX6_text_157 (by decide) ?_
    refine V.icmp_geN (tgt := 183) dX6_text_160 (by decide) (by omega) (by omega) (fun q => absurd q (by omega)) (fun _ => ?_)
    refine V.aload_n dX6_text_163 rfl ?_
    refine V.getf dX6_text_164 fl_X6_9 (o_ne hm0 (by decide)) rfl ?_
    refine V.iload dX6_text_167 rfl ?_
    refine V.aload_n dX6_text_169 rfl ?_
    refine V.getf dX6_text_170 fl_X6_19 (o_ne hm0 (by decide)) rfl ?_
    refine V.iload dX6_text_173 rfl ?_
    refine V.ialdN dX6_text_175 (o_ne hs (by decide)) (by omega) (by decide) ?_
    refine V.iastN dX6_text_176 (hset_self _ _ _) (by omega) (by decide) ?_
    rw [hset_hset]
    refine V.inN4 dX6_text_177 (by decide) rfl ?_
    refine V.goto (tgt := 155) dX6_text_180 (by decide) ?_
    refine ih (i + 1) _ (fun j hj => ?_) (by omega)
    by_cases y : j = i
    · subst y; rw [pk_us]
    · rw [pk_un y]; exact hX j (by omega)
set_option maxRecDepth 20000 in
set_option maxHeartbeats 4000000 in
theorem m_text (l : Launch) (d : Nat) (h : MH) (n : Nat) (K : KK) (b : Bool) (KI : KK) (S : SS) (m : Nat) (hc : ModAt h K b KI S) (hT : TI K m) (hSI : SI S) (x : Int32) : Sp l mX6_text (d + 7) [.ref 78, .int x] h n 0 0 (Qm (textV S K x) (textS S K x) b KI S h n) := by
  show V _ _ _ _ [some (.ref 78), some (.int x), none, none, none, none, none] _ _ _ _ _ _
  have hc0 := hc
  obtain ⟨⟨th, po, ba, en, tt, hm0⟩, ha, hb, ⟨Km, hmi⟩, ⟨Kr, hre⟩, h83, h84, h85, h86, h87, h88, ⟨X89, h89⟩, ⟨X90, h90⟩, ⟨X91, h91⟩, ⟨X92, h92⟩⟩ := id hc
  refine V.aload_n dX6_text_0 rfl ?_
  refine V.iload_n dX6_text_1 rfl ?_
  refine V.iconst (v := nI 0) dX6_text_2 (by decide) ?_
  refine V.callVv [_, _] dX6_text_3 lk_X6_160 rfl (Nat.le_of_ble_eq_true rfl) (Nat.le_of_ble_eq_true rfl) hm0 rfl (m_wrongRow0 l _ h n K b KI S m hc hT x) ?_
  refine V.ist2 dX6_text_6 (by decide) rfl ?_
  refine V.iload_n dX6_text_7 rfl ?_
  refine V.if_eq (tgt := 13) dX6_text_8 (by decide) (fun c8 => ?_) (fun c8 => ?_)
  rotate_left
  · refine V.iload_n dX6_text_11 rfl ?_
    exact V.iret (by exact dX6_text_12) rfl rfl ⟨by rw [textV, if_neg c8], rfl, by rw [textS, if_neg c8]; exact hc, fun _ _ => rfl⟩
  obtain ⟨i, hi7, rfl, hs0, hs1⟩ := wy_0 c8
  obtain ⟨N, hN, hs2⟩ := ((hSI i (by omega)).2.2 hs0).2
  rw [textV, if_pos c8, textS, if_pos c8, clampI (show i < 2147483648 by omega), hs2, clampI (show N < 2147483648 by omega)]
  have c8n : wyV S (nI i) = nI 0 := c8
  rw [c8n]
  refine V.aload_n dX6_text_13 rfl ?_
  refine V.bipush (v := nI 100) dX6_text_14 (by decide) ?_
  refine V.iload_n dX6_text_16 rfl ?_
  refine V.imulN dX6_text_17 ?_
  refine V.putf dX6_text_18 fp_X6_96 hm0 (Nat.le_of_ble_eq_true rfl) (fun _ => ⟨rfl, rfl⟩) ?_
  refine V.aload_n dX6_text_21 rfl ?_
  refine V.aload_n dX6_text_22 rfl ?_
  refine V.getf dX6_text_23 fl_X6_28 (hset_self _ _ _) rfl ?_
  refine V.iload_n dX6_text_26 rfl ?_
  refine V.ialdN dX6_text_27 (o_ne h85 (by decide)) (by omega) (by decide) ?_
  rw [hs2]
  refine V.putf dX6_text_28 fp_X6_93 (hset_self _ _ _) (Nat.le_of_ble_eq_true rfl) (fun _ => ⟨rfl, rfl⟩) ?_
  rw [hset_hset]
  refine V.aload_n dX6_text_31 rfl ?_
  refine V.iconst (v := nI 0) dX6_text_32 (by decide) ?_
  refine V.putf dX6_text_33 fp_X6_90 (hset_self _ _ _) (Nat.le_of_ble_eq_true rfl) (fun _ => ⟨rfl, rfl⟩) ?_
  rw [hset_hset]
  refine V.iconst (v := nI 0) dX6_text_36 (by decide) ?_
  refine V.ist3 dX6_text_37 (by decide) rfl ?_
  refine V.hp (h1 := RH h b th i N 0 tt.toUInt32.toNat X89) (by
    rw [RH, nI_all, hset_id (o_ne h89 (by decide))]
    rfl) ?_
  have hM : ∀ p t NB, ModAt (RH h b th i N p t NB) K b KI S := fun p t NB => (hc.ob b th _ _ _ _).nums NB
  have hO : ∀ p t NB q, (q < 78 ∨ 93 ≤ q) → RH h b th i N p t NB q = h q := fun p t NB q hq => RH_no (by omega) (by omega)
  refine m_text_1 l d h n b th i N (by omega) hN (S 3) h86 (bts S i) (fun _ _ => rfl) (nI i) 101 0 _ X89 0 (by omega) (by omega) (fun y t NB => ?_) (fun y p1 t NB => ?_)
  · have y1 : ¬ (txS (bts S i) N 101 0).1 = true := by rw [y]; decide
    exact ⟨by rw [txtV, if_neg y1], rfl, by rw [txtK, if_neg y1]; exact hM _ _ _, hO _ _ _⟩
  rw [Nat.zero_add]
  generalize hcnt : (txS (bts S i) N 101 0).2.2 = cnt
  have hwl := txS_wel 101 0 y
  refine V.iconst (v := nI 0) dX6_text_68 (by decide) ?_
  refine V.ist4 dX6_text_69 (by decide) rfl ?_
  refine V.hp (hset_id ((RH_no (by decide) (by decide)).trans hre)).symm (m_text_c1 l _ n (RH h b th i N p1 t NB) K b th _ _ _ _ (nI i) cnt (RH_78 _ _ _ _ _ _ _ _) ((RH_no (by decide) (by decide)).trans ha) ?_ 184 0 Kr (fun j hj => absurd hj (by omega)) (by omega))
  refine V.aload_n dX6_text_99 rfl ?_
  refine V.iconst (v := nI 0) dX6_text_100 (by decide) ?_
  refine V.putf dX6_text_101 fp_X6_90 (o_ne (RH_78 _ _ _ _ _ _ _ _) (by decide)) (Nat.le_of_ble_eq_true rfl) (fun _ => ⟨rfl, rfl⟩) ?_
  refine V.hp (h1 := hset (RH h b th i N 0 t NB) 82 (kc K)) (by
    rw [← RH_s78 h b th i N p1 t NB 0 t, hset_comm _ _ _ (by decide)]
    rfl) ?_
  refine m_text_2 l d h n b th i N (by omega) hN (S 3) h86 (bts S i) (fun _ _ => rfl) (nI i) cnt 101 0 K m t NB hT hwl (by omega) (by omega) (fun p2 y2 p3 t3 NB3 X3 => ?_) (fun K1 m1 y2 hT1 p3 t3 NB3 => ?_)
  · exact ⟨by rw [txtV, if_pos y, y2], rfl, by rw [txtK, if_pos y, y2]; exact (hM _ _ _).read X3, fun q hq => (hset_ne _ _ (by omega)).trans (hO _ _ _ q hq)⟩
  refine V.iconst (v := nI 0) dX6_text_152 (by decide) ?_
  refine V.ist4 dX6_text_153 (by decide) rfl ?_
  refine V.hp (hset_id (o_ne ((RH_no (by decide) (by decide)).trans ha) (by decide))).symm (m_text_c2 l _ n (hset (RH h b th i N p3 t3 NB3) 82 (kc K1)) K1 b th _ _ _ _ (nI i) cnt (o_ne (RH_78 _ _ _ _ _ _ _ _) (by decide)) (hset_self _ _ _) ?_ 184 0 K (fun j hj => absurd hj (by omega)) (by omega))
  refine V.iload_n dX6_text_183 rfl ?_
  exact V.iret (by exact dX6_text_184) rfl rfl ⟨by rw [txtV, if_pos y, y2, hcnt], rfl, by rw [txtK, if_pos y, y2]; exact ((hM _ _ _).read K1).s K1, fun q hq => ((hset_ne _ _ (by omega)).trans (hset_ne _ _ (by omega))).trans (hO _ _ _ q hq)⟩
