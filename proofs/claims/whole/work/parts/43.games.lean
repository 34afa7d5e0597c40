/-- who has won: one of the two, or nobody -/
def W3 (K : KK) : Prop := K 92 = nI 0 ∨ K 92 = nI 1 ∨ K 92 = nI 2
theorem w_tch (K : KK) (p : Nat) : tch K p 92 = K 92 := by
  have e1 : ∀ X : KK, tr X p 92 = X 92 := fun X => by rw [tr, pk_un (by omega), pk_un (by omega), pk_un (by omega)]
  have e2 : dz K 92 = K 92 := pk_un (by omega)
  unfold tch
  split
  · rw [e1, tq, td_94 _ _ _ _ (by omega) (by omega), td_94 _ _ _ _ (by omega) (by omega), pk_un (by omega), e2]
  · exact e2
theorem w_frL (s : Int32) : ∀ (r p : Nat) (K : KK), frL s r p K 92 = K 92 := by
  intro r
  induction r with
  | zero => intro p K; rfl
  | succ r ih =>
    intro p K
    have e1 : rel K p 92 = K 92 := by rw [rel, pk_un (by omega), pk_un (by omega), pk_un (by omega)]
    rw [frL]
    split
    · split
      · split
        · exact e1
        · rw [ih, e1]
      · rw [ih]
    · rw [ih]
theorem w_mfl (K : KK) (p e : Nat) (to : Int32) (he : e < 2) : mfl K p e to 92 = K 92 := by
  unfold mfl
  split
  · rw [pk_un (by omega)]
  · rfl
theorem w_mvs (K : KK) (m p : Nat) : mvs K m p 92 = K 92 := by
  have e1 : ∀ to, mvA K p to 92 = K 92 := fun to => by
    unfold mvA
    split
    · rfl
    · rw [w_mfl _ _ _ _ (by omega), w_mfl _ _ _ _ (by omega), mv1, pk_un (by omega), pk_un (by omega)]
  have e2 : ∀ (X : KK) to b, b < 2 → mvT X p to b 92 = X 92 := fun X to b hb => by
    unfold mvT
    split
    · split
      · rw [pk_un (by omega), pk_un (by omega)]
      · rfl
    · rfl
  have e3 : ∀ (X : KK) to s b, mvF X m to s b 92 = X 92 := fun X to s b => by
    unfold mvF
    split
    · split
      · exact w_frL _ _ _ _
      · rfl
    · rfl
  rw [mvs, e3, e2 _ _ _ (by omega), e1]
theorem w_mtL (p : Nat) (s : Int32) (b : Bool) : ∀ (r q : Nat) (K : KK), mtL p s b r q K 92 = K 92 := by
  intro r
  induction r with
  | zero => intro q K; rfl
  | succ r ih =>
    intro q K
    rw [mtL, ih]
    unfold mt1
    split
    · rfl
    · split
      · split
        · split
          · split
            · split
              · exact w_tch _ _
              · rfl
            · exact w_tch _ _
          · rfl
        · rfl
      · rfl
theorem w3_act {K : KK} {m p : Nat} (hD : KD K m) (hp : p < m) (hf : gP K p 5 = nI 0) (h : W3 K) : W3 (act K m p) := by
  have key : ∀ X : KK, KD X m → W3 X → W3 (acC (mts X m p) p) := fun X hX h3 => by
    have h1 : W3 (mts X m p) := by
      unfold W3 mts
      rw [w_mtL]
      exact h3
    obtain ⟨e, he, hs⟩ := (KD_mtL p (gP X p 0) (decide (hfc (gP X p 4) = gP X p 0)) hp m 0 X hX (by omega)).1.2.2.1 p hp
    change gP (mts X m p) p 0 = nI e at hs
    unfold acC
    split
    · split
      · split
        · rw [hs]
          unfold W3
          rw [pk_us]
          rcases (show e = 0 ∨ e = 1 by omega) with rfl | rfl
          · exact Or.inl rfl
          · exact Or.inr (Or.inl rfl)
        · exact h1
      · exact h1
    · exact h1
  rw [act]
  split
  · refine key _ (KD_pl hD p 6 _ (by omega) (fun q => by omega)) ?_
    unfold W3
    rw [pk_un (by omega)]
    exact h
  · refine key _ (KD_mvs hD hp hf) ?_
    unfold W3
    rw [w_mvs]
    exact h
theorem w3_scL {m : Nat} : ∀ (r p : Nat) (K : KK), KD K m → W3 K → p + r ≤ m → W3 (scL m r p K) := by
  intro r
  induction r with
  | zero => intro p K _ h _; exact h
  | succ r ih =>
    intro p K hD h hp
    rw [scL]
    split
    · split
      · rename_i y
        exact ih _ _ (KD_act hD (by omega) (frB_z y)) (w3_act hD (by omega) (frB_z y) h) (by omega)
      · exact ih _ _ hD h (by omega)
    · exact h
theorem w3_sec {K : KK} {m : Nat} (hD : KD K m) (h : W3 K) : W3 (sec K m) := by
  have := w3_scL m 0 K hD h (by omega)
  unfold W3 sec
  rw [pk_un (by omega)]
  exact this
theorem w3_pl {m : Nat} : ∀ (r : Nat) (K : KK), KD K m → W3 K → W3 (pl m r K) := by
  intro r
  induction r with
  | zero => intro K _ h; exact h
  | succ r ih =>
    intro K hD h
    rw [pl]
    split
    · exact h
    · exact ih _ (KD_sec hD) (w3_sec hD h)
theorem w3_fin {K : KK} {m : Nat} (hD : KD K m) (z : Int32) : W3 (fin K m z) := w3_pl _ _ (KD_bgn hD z) (Or.inr (Or.inr rfl))
theorem w3_fin2 {K : KK} {m : Nat} {z : Int32} (hB : KD (bgn K m z) m) : W3 (fin K m z) := w3_pl _ _ hB (Or.inr (Or.inr rfl))
/-- a game's worth to side 0 -/
def ldv (x : Int32) : Int32 := if x = nI 0 then nI 1 else if x = nI 1 then -1 else nI 0
def agL (K : KK) (m : Nat) (z : Int32) : Nat → Int32
  | 0 => nI 0
  | g + 1 => agL K m z g + ldv (fin K m (z + nI g) 92)
/-- when a game was won -/
def woS (K : KK) (m : Nat) (z : Int32) : Int32 := if fin K m z 92 = nI 2 then -4 else fin K m z 91
theorem WoodAt.won {h : MH} {w : Nat} {K : KK} {cl P : Nat → Int32} {pn : Nat} (hw : WoodAt h w K cl P pn) (g : Nat → Int32) : WoodAt (hset h (w + 7) (.inl (0, 10, .inl g))) w K cl P pn := by
  obtain ⟨hw0, ⟨gr, hgr, egr⟩, ⟨ru, hru, eru⟩, ⟨pq, hpf, epf⟩, hpl, ⟨fl, hfl, efl⟩, ⟨ca, hca, eca⟩, ⟨wa, hwa⟩, hpp, hhd⟩ := id hw
  exact ⟨o_ne hw0 (by omega), ⟨gr, o_ne hgr (by omega), egr⟩, ⟨ru, o_ne hru (by omega), eru⟩, ⟨pq, o_ne hpf (by omega), epf⟩, o_ne hpl (by omega), ⟨fl, o_ne hfl (by omega), efl⟩, ⟨ca, o_ne hca (by omega), eca⟩, ⟨g, hset_self _ _ _⟩, fun i hi => o_ne (hpp i hi) (by omega), hhd⟩
/-- nothing but the wood at w has changed (its row of wins may have) -/
def Ou (h h1 : MH) (w : Nat) : Prop := ∀ q, q < w ∨ w + 18 ≤ q → h1 q = h q
theorem Out.ou {h h1 : MH} {w : Nat} (ho : Out h h1 w) : Ou h h1 w := fun q hq => ho q (by omega)
theorem Ou.tr {h h1 h2 : MH} {w : Nat} (h12 : Ou h h1 w) (h23 : Ou h1 h2 w) : Ou h h2 w := fun q hq => (h23 q hq).trans (h12 q hq)
set_option maxRecDepth 20000 in
set_option maxHeartbeats 4000000 in
theorem s4_play_in (l : Launch) (d n w N g : Nat) (z ld : Int32) (cl P : Nat → Int32) (pn : Nat) (h0 : MH) (m : Nat) {Q : Option Value → MH → Nat → Prop} : ∀ (r i : Nat) (K : KK) (h : MH), WoodAt h w K cl P pn → KD K m → PR K P pn → Out h0 h w → i + r = 600 → (∀ h1 : MH, WoodAt h1 w (pl m r K) cl P pn → Out h0 h1 w → V l mX4_playGames (d + 6) 47 [some (.ref w), some (.int (nI N)), some (.int z), some (.int ld), some (.int (nI g)), none] [] h1 n 0 0 Q) → V l mX4_playGames (d + 6) 22 [some (.ref w), some (.int (nI N)), some (.int z), some (.int ld), some (.int (nI g)), some (.int (nI i))] [] h n 0 0 Q := by
  intro r
  induction r with
  | zero =>
    intro i K h hw hD hPR ho hi kk
    obtain ⟨hw0, ⟨gr, hgr, egr⟩, ⟨ru, hru, eru⟩, ⟨pq, hpf, epf⟩, hpl, ⟨fl, hfl, efl⟩, ⟨ca, hca, eca⟩, ⟨wa, hwa⟩, hpp, hhd⟩ := id hw
    refine V.iload dX4_playGames_22 rfl ?_
    refine V.sipush (v := nI 600) dX4_playGames_24 (by decide) ?_
    refine V.icmp_geN (tgt := 47) dX4_playGames_27 (by decide) (by omega) (by omega) (fun _ => ?_) (fun q => absurd q (by omega))
    exact V.drop 5 (kk h hw ho)
  | succ r ih =>
    intro i K h hw hD hPR ho hi kk
    obtain ⟨hw0, ⟨gr, hgr, egr⟩, ⟨ru, hru, eru⟩, ⟨pq, hpf, epf⟩, hpl, ⟨fl, hfl, efl⟩, ⟨ca, hca, eca⟩, ⟨wa, hwa⟩, hpp, hhd⟩ := id hw
    refine V.iload dX4_playGames_22 rfl ?_
    refine V.sipush (v := nI 600) dX4_playGames_24 (by decide) ?_
    refine V.icmp_geN (tgt := 47) dX4_playGames_27 (by decide) (by omega) (by omega) (fun q => absurd q (by omega)) (fun _ => ?_)
    refine V.aload_n dX4_playGames_30 rfl ?_
    refine V.callVv [] dX4_playGames_31 lk_X4_221 rfl (Nat.le_of_ble_eq_true rfl) (Nat.le_of_ble_eq_true rfl) hw0 rfl (s4_ended _ _ _ _ _ _ _ _ _ hw) ?_
    refine V.if_neB (tgt := 47) dX4_playGames_34 (by decide) (fun c34 => ?_) (fun c34 => ?_)
    · exact V.drop 5 (kk h (by rw [pl, if_pos c34]; exact hw) ho)
    · refine V.aload_n dX4_playGames_37 rfl ?_
      refine V.callVw [] dX4_playGames_38 lk_X4_224 rfl (Nat.le_of_ble_eq_true rfl) (Nat.le_of_ble_eq_true rfl) hw0 rfl (s4_tick _ _ _ _ _ _ _ _ _ hw m hD hPR) (fun h1 hw1 ho1 => ?_)
      refine V.inN5 dX4_playGames_41 (by decide) rfl ?_
      refine V.goto (tgt := 22) dX4_playGames_44 (by decide) ?_
      exact ih (i + 1) (sec K m) h1 hw1 (KD_sec hD) (PR_sta hPR (Sta_sec K (Sta_rf m K))) (ho.tr ho1) (by omega) (fun h2 hw2 ho2 => kk h2 (by rw [pl, if_neg (by rw [c34]; decide)]; exact hw2) ho2)
set_option maxRecDepth 20000 in
set_option maxHeartbeats 4000000 in
theorem s4_play_c (l : Launch) (d n w N g : Nat) (z ld : Int32) (F : KK) (cl P : Nat → Int32) (pn : Nat) (h : MH) (hw : WoodAt h w F cl P pn) (h3 : W3 F) {Q : Option Value → MH → Nat → Prop} (kk : V l mX4_playGames (d + 6) 5 [some (.ref w), some (.int (nI N)), some (.int z), some (.int (ld + ldv (F 92))), some (.int (nI (g + 1))), none] [] h n 0 0 Q) : V l mX4_playGames (d + 6) 71 [some (.ref w), some (.int (nI N)), some (.int z), some (.int ld), some (.int (nI g)), none] [] h n 0 0 Q := by
  obtain ⟨hw0, ⟨gr, hgr, egr⟩, ⟨ru, hru, eru⟩, ⟨pq, hpf, epf⟩, hpl, ⟨fl, hfl, efl⟩, ⟨ca, hca, eca⟩, ⟨wa, hwa⟩, hpp, hhd⟩ := id hw
  refine V.aload_n dX4_playGames_71 rfl ?_
  refine V.getf dX4_playGames_72 fl_X4_61 hw0 rfl ?_
  refine V.iconst (v := nI 2) dX4_playGames_75 (by decide) ?_
  refine V.icmp_eq (tgt := 94) dX4_playGames_76 (by decide) (fun c76 => ?_) (fun c76 => ?_)
  · refine V.inN4 dX4_playGames_94 (by decide) rfl ?_
    refine V.goto (tgt := 5) dX4_playGames_97 (by decide) ?_
    first
    | (rw [show ldv (F 92) = nI 0 by (rw [c76]; rfl), show ld + nI 0 = ld from Int32.add_zero ld] at kk; exact kk)
    | (rw [show ldv (F 92) = nI 1 from if_pos c84] at kk; exact kk)
    | (rw [show ldv (F 92) = -1 by (rcases h3 with y | y | y; exact absurd y c84; rw [y]; rfl; exact absurd y c76)] at kk; exact kk)
  · refine V.iload_n dX4_playGames_79 rfl ?_
    refine V.aload_n dX4_playGames_80 rfl ?_
    refine V.getf dX4_playGames_81 fl_X4_61 hw0 rfl ?_
    refine V.if_ne (tgt := 91) dX4_playGames_84 (by decide) (fun c84 => ?_) (fun c84 => ?_)
    · refine V.iconst (v := -1) dX4_playGames_91 (by decide) ?_
      refine V.iadd dX4_playGames_92 ?_
      refine V.ist3 dX4_playGames_93 (by decide) rfl ?_
      refine V.inN4 dX4_playGames_94 (by decide) rfl ?_
      refine V.goto (tgt := 5) dX4_playGames_97 (by decide) ?_
      first
      | (rw [show ldv (F 92) = nI 0 by (rw [c76]; rfl), show ld + nI 0 = ld from Int32.add_zero ld] at kk; exact kk)
      | (rw [show ldv (F 92) = nI 1 from if_pos c84] at kk; exact kk)
      | (rw [show ldv (F 92) = -1 by (rcases h3 with y | y | y; exact absurd y c84; rw [y]; rfl; exact absurd y c76)] at kk; exact kk)
    · refine V.iconst (v := nI 1) dX4_playGames_87 (by decide) ?_
      refine V.goto (tgt := 92) dX4_playGames_88 (by decide) ?_
      refine V.iadd dX4_playGames_92 ?_
      refine V.ist3 dX4_playGames_93 (by decide) rfl ?_
      refine V.inN4 dX4_playGames_94 (by decide) rfl ?_
      refine V.goto (tgt := 5) dX4_playGames_97 (by decide) ?_
      first
      | (rw [show ldv (F 92) = nI 0 by (rw [c76]; rfl), show ld + nI 0 = ld from Int32.add_zero ld] at kk; exact kk)
      | (rw [show ldv (F 92) = nI 1 from if_pos c84] at kk; exact kk)
      | (rw [show ldv (F 92) = -1 by (rcases h3 with y | y | y; exact absurd y c84; rw [y]; rfl; exact absurd y c76)] at kk; exact kk)
set_option maxRecDepth 20000 in
set_option maxHeartbeats 4000000 in
def wv (F : KK) : Int32 := if F 92 = nI 2 then -4 else F 91
theorem s4_play_b (l : Launch) (d n w N g : Nat) (hg : g < 10) (z ld : Int32) (F : KK) (cl P wa : Nat → Int32) (pn : Nat) (h : MH) (hw : WoodAt h w F cl P pn) (hwa : h (w + 7) = some (.inl (0, 10, .inl wa))) (h3 : W3 F) {Q : Option Value → MH → Nat → Prop} (kk : ∀ h1 : MH, WoodAt h1 w F cl P pn → h1 (w + 7) = some (.inl (0, 10, .inl (upd wa g (wv F)))) → (∀ q, q ≠ w + 7 → h1 q = h q) → V l mX4_playGames (d + 6) 5 [some (.ref w), some (.int (nI N)), some (.int z), some (.int (ld + ldv (F 92))), some (.int (nI (g + 1))), none] [] h1 n 0 0 Q) : V l mX4_playGames (d + 6) 47 [some (.ref w), some (.int (nI N)), some (.int z), some (.int ld), some (.int (nI g)), none] [] h n 0 0 Q := by
  obtain ⟨hw0, ⟨gr, hgr, egr⟩, ⟨ru, hru, eru⟩, ⟨pq, hpf, epf⟩, hpl, ⟨fl, hfl, efl⟩, ⟨ca, hca, eca⟩, -, hpp, hhd⟩ := id hw
  refine V.aload_n dX4_playGames_47 rfl ?_
  refine V.getf dX4_playGames_48 fl_X4_33 hw0 rfl ?_
  refine V.iload dX4_playGames_51 rfl ?_
  refine V.aload_n dX4_playGames_53 rfl ?_
  refine V.getf dX4_playGames_54 fl_X4_61 hw0 rfl ?_
  refine V.iconst (v := nI 2) dX4_playGames_57 (by decide) ?_
  refine V.icmp_ne (tgt := 66) dX4_playGames_58 (by decide) (fun c58 => ?_) (fun c58 => ?_)
  · refine V.aload_n dX4_playGames_66 rfl ?_
    refine V.getf dX4_playGames_67 fl_X4_58 hw0 rfl ?_
    refine V.iastN dX4_playGames_70 hwa (by omega) (by decide) ?_
    first
    | (rw [show (-4 : Int32) = wv F from (if_pos c58).symm]; exact s4_play_c l d n w N g z ld F cl P pn _ (hw.won _) h3 (kk _ (hw.won _) (hset_self _ _ _) (fun q hq => hset_ne _ _ hq)))
    | (rw [show F 91 = wv F from (if_neg c58).symm]; exact s4_play_c l d n w N g z ld F cl P pn _ (hw.won _) h3 (kk _ (hw.won _) (hset_self _ _ _) (fun q hq => hset_ne _ _ hq)))
  · refine V.bipush (v := -4) dX4_playGames_61 (by decide) ?_
    refine V.goto (tgt := 70) dX4_playGames_63 (by decide) ?_
    refine V.iastN dX4_playGames_70 hwa (by omega) (by decide) ?_
    first
    | (rw [show (-4 : Int32) = wv F from (if_pos c58).symm]; exact s4_play_c l d n w N g z ld F cl P pn _ (hw.won _) h3 (kk _ (hw.won _) (hset_self _ _ _) (fun q hq => hset_ne _ _ hq)))
    | (rw [show F 91 = wv F from (if_neg c58).symm]; exact s4_play_c l d n w N g z ld F cl P pn _ (hw.won _) h3 (kk _ (hw.won _) (hset_self _ _ _) (fun q hq => hset_ne _ _ hq)))
/-- the end of n games -/
def Gq (w : Nat) (K : KK) (m : Nat) (z : Int32) (N : Nat) (P : Nat → Int32) (pn : Nat) (h : MH) (n : Nat) : Option Value → MH → Nat → Prop := fun r h1 n1 => r = some (.int (agL K m z N)) ∧ n1 = n ∧ ∃ cl, WoodAt h1 w (fin K m (z + nI (N - 1))) cl P pn ∧ Ou h h1 w ∧ ∃ wa : Nat → Int32, h1 (w + 7) = some (.inl (0, 10, .inl wa)) ∧ ∀ k, k < N → wa k = woS K m (z + nI k)
set_option maxRecDepth 20000 in
set_option maxHeartbeats 4000000 in
theorem s4_play_out (l : Launch) (d n w N : Nat) (hN : 1 ≤ N) (hN10 : N ≤ 10) (z : Int32) (K : KK) (P : Nat → Int32) (pn m : Nat) (h0 : MH) (hm0 : K 90 = nI m) (hm10 : m ≤ 10) (hB : ∀ z, KD (bgn K m z) m) (hPR : PR K P pn) : ∀ (r g : Nat) (Kc : KK) (cl : Nat → Int32) (h : MH) (wa : Nat → Int32), Wb h w Kc 0 m cl P pn → Kc 90 = nI m → (∀ z1, bgn Kc m z1 = bgn K m z1) → Ou h0 h w → h (w + 7) = some (.inl (0, 10, .inl wa)) → (∀ k, k < g → wa k = woS K m (z + nI k)) → (0 < g → WoodAt h w (fin K m (z + nI (g - 1))) cl P pn) → g + r = N → V l mX4_playGames (d + 6) 5 [some (.ref w), some (.int (nI N)), some (.int z), some (.int (agL K m z g)), some (.int (nI g)), none] [] h n 0 0 (Gq w K m z N P pn h0 n) := by
  intro r
  induction r with
  | zero =>
    intro g Kc cl h wa hw hm heq ho hwa hww hx hg
    obtain ⟨hw0, ⟨gr, hgr, egr⟩, ⟨ru, hru, eru⟩, ⟨pq, hpf, epf⟩, hpl, ⟨fl, hfl⟩, ⟨ca, hca⟩, -, hpp, hhd⟩ := id hw
    refine V.iload dX4_playGames_5 rfl ?_
    refine V.iload_n dX4_playGames_7 rfl ?_
    refine V.icmp_geN (tgt := 100) dX4_playGames_8 (by decide) (by omega) (by omega) (fun _ => ?_) (fun q => absurd q (by omega))
    refine V.iload_n dX4_playGames_100 rfl ?_
    have hgN : g = N := by omega
    subst hgN
    exact V.iret (by exact dX4_playGames_101) rfl rfl ⟨rfl, rfl, cl, hx (by omega), ho, wa, hwa, hww⟩
  | succ r ih =>
    intro g Kc cl h wa hw hm heq ho hwa hww hx hg
    obtain ⟨hw0, ⟨gr, hgr, egr⟩, ⟨ru, hru, eru⟩, ⟨pq, hpf, epf⟩, hpl, ⟨fl, hfl⟩, ⟨ca, hca⟩, -, hpp, hhd⟩ := id hw
    refine V.iload dX4_playGames_5 rfl ?_
    refine V.iload_n dX4_playGames_7 rfl ?_
    refine V.icmp_geN (tgt := 100) dX4_playGames_8 (by decide) (by omega) (by omega) (fun q => absurd q (by omega)) (fun _ => ?_)
    refine V.aload_n dX4_playGames_11 rfl ?_
    refine V.iload_n dX4_playGames_12 rfl ?_
    refine V.iload dX4_playGames_13 rfl ?_
    refine V.iadd dX4_playGames_15 ?_
    refine V.callVw [_] dX4_playGames_16 lk_X4_37 rfl (Nat.le_of_ble_eq_true rfl) (Nat.le_of_ble_eq_true rfl) hw0 rfl (s4_begin _ _ _ _ _ m _ _ _ _ _ hm hm10 hw) (fun h1 hw1 ho1 => ?_)
    rw [heq] at hw1
    refine V.iconst (v := nI 0) dX4_playGames_19 (by decide) ?_
    refine V.ist5 dX4_playGames_20 (by decide) rfl ?_
    refine s4_play_in l d n w N g z (agL K m z g) _ P pn h m 600 0 _ h1 hw1 (hB _) (PR_bgn hPR m _) ho1 (by omega) (fun h2 hw2 ho2 => ?_)
    refine s4_play_b l d n w N g (by omega) z (agL K m z g) _ _ P wa pn h2 hw2 ((ho2 _ (by omega)).trans hwa) (w3_fin2 (hB (z + nI g))) (fun h3 hw3 hwa3 hq3 => ?_)
    refine ih (g + 1) _ _ h3 _ (hw3.wb m) ?_ (fun z1 => ?_) (ho.tr (fun q hq => (hq3 q (by omega)).trans (ho2 q (by omega)))) hwa3 (fun k hk => ?_) (fun _ => ?_) (by omega)
    · exact (Sta_play 600 _ (Sta_rf m _)).1 90 (by omega) |>.trans ((bgn_lo _ _ _ _ (by omega)).trans hm0)
    · exact bgn_fin K m (z + nI g) z1
    · by_cases y : k = g
      · subst y
        rw [pk_us]
        rfl
      · rw [pk_un y]; exact hww k (by omega)
    · rw [show g + 1 - 1 = g by omega]; exact hw3
set_option maxRecDepth 20000 in
set_option maxHeartbeats 4000000 in
theorem s4_playGames (l : Launch) (d : Nat) (h : MH) (n w N : Nat) (hN : 1 ≤ N) (hN10 : N ≤ 10) (z : Int32) (K : KK) (cl P : Nat → Int32) (pn m : Nat) (hw : Wb h w K 0 m cl P pn) (hm : K 90 = nI m) (hm10 : m ≤ 10) (hB : ∀ z, KD (bgn K m z) m) (hPR : PR K P pn) : Sp l mX4_playGames (d + 6) [.ref w, .int (nI N), .int z] h n 0 0 (Gq w K m z N P pn h n) := by
  obtain ⟨wa, hwa⟩ := hw.2.2.2.2.2.2.2.1
  show V _ _ _ _ [some (.ref w), some (.int (nI N)), some (.int z), none, none, none] _ _ _ _ _ _
  refine V.iconst (v := nI 0) dX4_playGames_0 (by decide) ?_
  refine V.ist3 dX4_playGames_1 (by decide) rfl ?_
  refine V.iconst (v := nI 0) dX4_playGames_2 (by decide) ?_
  refine V.ist4 dX4_playGames_3 (by decide) rfl ?_
  exact s4_play_out l d n w N hN hN10 z K P pn m h hm hm10 hB hPR N 0 K cl h wa hw hm (fun _ => rfl) (fun _ _ => rfl) hwa (fun k hk => absurd hk (by omega)) (fun q => absurd q (by omega)) (by omega)
