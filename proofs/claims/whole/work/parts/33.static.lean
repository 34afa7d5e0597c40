/-- what a second leaves as it was: ground, rules, plans, who they are, those who are out -/
def Sta (m : Nat) (K K1 : KK) : Prop := (∀ j, j < 91 ∨ (100 ≤ j ∧ j < 114) ∨ 114 + 7 * m ≤ j → K1 j = K j) ∧ (∀ p u, u < 4 → gP K1 p u = gP K p u) ∧ (∀ p u, u < 7 → gP K p 5 = nI 2 → gP K1 p u = gP K p u) ∧ ∀ p, ¬ gP K p 5 = nI 2 → ¬ gP K1 p 5 = nI 2
theorem Sta_rf (m : Nat) (K : KK) : Sta m K K := ⟨fun _ _ => rfl, fun _ _ _ => rfl, fun _ _ _ _ => rfl, fun _ h => h⟩
theorem Sta_tr {m : Nat} {K K1 K2 : KK} (h : Sta m K K1) (g : Sta m K1 K2) : Sta m K K2 := by
  refine ⟨fun j hj => (g.1 j hj).trans (h.1 j hj), fun p u hu => (g.2.1 p u hu).trans (h.2.1 p u hu), fun p u hu q => ?_, fun p q => g.2.2.2 p (h.2.2.2 p q)⟩
  exact (g.2.2.1 p u hu (by rw [h.2.2.1 p 5 (by omega) q]; exact q)).trans (h.2.2.1 p u hu q)
theorem Sta_lo {m : Nat} {K K1 : KK} (h : Sta m K K1) (i : Nat) (v : Int32) (h1 : 91 ≤ i) (h2 : i < 100) : Sta m K (upd K1 i v) := by
  refine ⟨fun j hj => ?_, fun p u hu => ?_, fun p u hu q => ?_, fun p q => ?_⟩
  · rw [pk_un (by omega)]; exact h.1 j hj
  · rw [gP_lo _ _ _ _ _ (by omega)]; exact h.2.1 p u hu
  · rw [gP_lo _ _ _ _ _ (by omega)]; exact h.2.2.1 p u hu q
  · rw [gP_lo _ _ _ _ _ (by omega)]; exact h.2.2.2 p q
theorem Sta_pl {m : Nat} {K K1 : KK} (h : Sta m K K1) (p u : Nat) (v : Int32) (hp : p < m) (hu : u = 4 ∨ u = 5 ∨ u = 6) (h5 : ¬ gP K1 p 5 = nI 2) (hv : u = 5 → ¬ v = nI 2) : Sta m K (upd K1 (114 + 7 * p + u) v) := by
  have h0 : ¬ gP K p 5 = nI 2 := fun q => h5 (by rw [h.2.2.1 p 5 (by omega) q]; exact q)
  refine ⟨fun j hj => ?_, fun q w hw => ?_, fun q w hw z => ?_, fun q z => ?_⟩
  · rw [pk_un (by omega)]; exact h.1 j hj
  · rw [gP_upd _ _ _ _ _ _ (by omega) (by omega), if_neg (by omega)]; exact h.2.1 q w hw
  · rw [gP_upd _ _ _ _ _ _ (by omega) (by omega), if_neg (fun (y : q = p ∧ w = u) => h0 (y.1 ▸ z))]; exact h.2.2.1 q w hw z
  · rw [gP_upd _ _ _ _ _ _ (by omega) (by omega)]
    split
    · rename_i y; exact hv y.2.symm
    · exact h.2.2.2 q z
theorem Sta_td {m : Nat} {K K1 : KK} (h : Sta m K K1) (p e : Nat) (he : e < 2) : Sta m K (td K1 p e) := by
  unfold td
  split
  · exact Sta_lo (Sta_lo h _ _ (by omega) (by omega)) _ _ (by omega) (by omega)
  · exact h
theorem tq_gP (K : KK) (p q u : Nat) : gP (tq K p) q u = gP K q u := by
  rw [tq, td_gP _ _ _ _ _ (by omega), td_gP _ _ _ _ _ (by omega), gP_lo _ _ _ _ _ (by omega)]
theorem Sta_tch {m : Nat} {K K1 : KK} (h : Sta m K K1) (p : Nat) (hp : p < m) (h5 : ¬ gP K1 p 5 = nI 2) : Sta m K (tch K1 p) := by
  unfold tch
  have h1 : Sta m K (dz K1) := Sta_lo h 95 _ (by omega) (by omega)
  have h50 : gP (dz K1) p 5 = gP K1 p 5 := gP_lo _ _ _ _ _ (by omega)
  split
  · have h2 : Sta m K (tq (dz K1) p) := Sta_td (Sta_td (Sta_lo h1 93 _ (by omega) (by omega)) _ _ (by omega)) _ _ (by omega)
    unfold tr
    refine Sta_pl (Sta_pl (Sta_pl h2 p 5 (nI 1) hp (by omega) ?_ (fun _ => by decide)) p 4 _ hp (by omega) ?_ (fun q => by omega)) p 6 _ hp (by omega) ?_ (fun q => by omega)
    · rw [tq_gP, h50]; exact h5
    · rw [gP_upd _ _ _ _ _ _ (by omega) (by omega), if_pos ⟨rfl, rfl⟩]; decide
    · rw [gP_upd _ _ _ _ _ _ (by omega) (by omega), if_neg (by omega), gP_upd _ _ _ _ _ _ (by omega) (by omega), if_pos ⟨rfl, rfl⟩]; decide
  · exact h1
theorem Sta_rel {m : Nat} {K K1 : KK} (h : Sta m K K1) (p : Nat) (hp : p < m) (h5 : ¬ gP K1 p 5 = nI 2) : Sta m K (rel K1 p) := by
  unfold rel
  refine Sta_pl (Sta_pl (Sta_pl h p 5 (nI 0) hp (by omega) h5 (fun _ => by decide)) p 4 _ hp (by omega) ?_ (fun q => by omega)) p 6 _ hp (by omega) ?_ (fun q => by omega)
  · rw [gP_upd _ _ _ _ _ _ (by omega) (by omega), if_pos ⟨rfl, rfl⟩]; decide
  · rw [gP_upd _ _ _ _ _ _ (by omega) (by omega), if_neg (by omega), gP_upd _ _ _ _ _ _ (by omega) (by omega), if_pos ⟨rfl, rfl⟩]; decide
theorem Sta_frL {m : Nat} {K : KK} (s : Int32) : ∀ (r p : Nat) (K1 : KK), Sta m K K1 → p + r ≤ m → Sta m K (frL s r p K1) := by
  intro r
  induction r with
  | zero => intro p K1 h _; exact h
  | succ r ih =>
    intro p K1 h hp
    rw [frL]
    split
    · split
      · rename_i h5
        have h1 : Sta m K (rel K1 p) := Sta_rel h p (by omega) (by rw [h5]; decide)
        split
        · exact h1
        · exact ih _ _ h1 (by omega)
      · exact ih _ _ h (by omega)
    · exact ih _ _ h (by omega)
theorem Sta_mfl {m : Nat} {K K1 : KK} (h : Sta m K K1) (p e : Nat) (to : Int32) (he : e < 2) : Sta m K (mfl K1 p e to) := by
  unfold mfl
  split
  · exact Sta_lo h _ _ (by omega) (by omega)
  · exact h
theorem Sta_mvA {m : Nat} {K K1 : KK} (h : Sta m K K1) (p : Nat) (to : Int32) (hp : p < m) (h5 : ¬ gP K1 p 5 = nI 2) : Sta m K (mvA K1 p to) := by
  unfold mvA
  split
  · exact h
  · refine Sta_mfl (Sta_mfl (Sta_pl (Sta_pl h p 4 to hp (by omega) h5 (fun q => by omega)) p 6 _ hp (by omega) ?_ (fun q => by omega)) _ _ _ (by omega)) _ _ _ (by omega)
    rw [gP_upd _ _ _ _ _ _ (by omega) (by omega), if_neg (by omega)]; exact h5
theorem Sta_mvs {m : Nat} {K K1 : KK} (h : Sta m K K1) (p : Nat) (hp : p < m) (h5 : ¬ gP K1 p 5 = nI 2) : Sta m K (mvs K1 m p) := by
  have h1 := Sta_mvA h p (nxt K1 p (goal K1 m p)) hp h5
  have h2 : Sta m K (mvT (mvA K1 p (nxt K1 p (goal K1 m p))) p (nxt K1 p (goal K1 m p)) (1 - (gP K1 p 0).toNatClampNeg)) := by
    unfold mvT
    split
    · split
      · exact Sta_lo (Sta_lo h1 _ _ (by omega) (by omega)) _ _ (by omega) (by omega)
      · exact h1
    · exact h1
  unfold mvs mvF
  split
  · split
    · exact Sta_frL _ _ _ _ h2 (by omega)
    · exact h2
  · exact h2
theorem fr_n2 {K : KK} {p : Nat} (h : frB K p = true) : ¬ gP K p 5 = nI 2 := by rw [frB_z h]; decide
theorem Sta_mtL {m : Nat} {K : KK} (p : Nat) (s : Int32) (b : Bool) (hp : p < m) : ∀ (r q : Nat) (K1 : KK), Sta m K K1 → q + r ≤ m → Sta m K (mtL p s b r q K1) := by
  intro r
  induction r with
  | zero => intro q K1 h _; exact h
  | succ r ih =>
    intro q K1 h hq
    refine ih _ _ ?_ (by omega)
    unfold mt1
    repeat' split
    all_goals first | exact h | exact Sta_tch h _ (by omega) (fr_n2 (by assumption))
theorem Sta_acC {m : Nat} {K K1 : KK} (h : Sta m K K1) (p : Nat) : Sta m K (acC K1 p) := by
  unfold acC
  repeat' split
  all_goals first | exact h | exact Sta_lo h 92 _ (by omega) (by omega)
theorem Sta_act {m : Nat} {K K1 : KK} (h : Sta m K K1) (p : Nat) (hp : p < m) (h5 : ¬ gP K1 p 5 = nI 2) : Sta m K (act K1 m p) := by
  unfold act mts
  refine Sta_acC (Sta_mtL p _ _ hp m 0 _ ?_ (by omega)) p
  split
  · exact Sta_pl h p 6 _ hp (by omega) h5 (fun q => by omega)
  · exact Sta_mvs h p hp h5
theorem Sta_scL {m : Nat} {K : KK} : ∀ (r p : Nat) (K1 : KK), Sta m K K1 → p + r ≤ m → Sta m K (scL m r p K1) := by
  intro r
  induction r with
  | zero => intro p K1 h _; exact h
  | succ r ih =>
    intro p K1 h hp
    rw [scL]
    split
    · refine ih _ _ ?_ (by omega)
      split
      · exact Sta_act h p (by omega) (fr_n2 (by assumption))
      · exact h
    · exact h
theorem Sta_sec {m : Nat} {K : KK} (K1 : KK) (h : Sta m K K1) : Sta m K (sec K1 m) := Sta_lo (Sta_scL m 0 K1 h (by omega)) 91 _ (by omega) (by omega)
/-- the seconds that have gone by are read by nothing in a second -/
theorem u_g (K : KK) (v : Int32) (p w : Nat) : gP (upd K 91 v) p w = gP K p w := gP_lo _ _ _ _ _ (by omega)
theorem u_j (K : KK) (v : Int32) (j : Nat) (h : j ≠ 91) : upd K 91 v j = K j := pk_un h
theorem u_f (K : KK) (v : Int32) (p : Nat) : frB (upd K 91 v) p = frB K p := by rw [frB, u_g, frB]
theorem u_s (K : KK) (v : Int32) (i : Nat) (x : Int32) (h : i ≠ 91) : upd (upd K 91 v) i x = upd (upd K i x) 91 v := upd_swap K (by omega) _ _
theorem u_cntH (K : KK) (v s : Int32) : ∀ m, cntH (upd K 91 v) s m = cntH K s m := by
  intro m
  induction m with
  | zero => rfl
  | succ m ih => simp only [cntH, ih, u_g]
theorem u_plV (K : KK) (v : Int32) (b : Nat) (hb : 100 ≤ b) (held : Int32) (w : Nat) (v0 : Int32) : ∀ i, plV (upd K 91 v) b held w v0 i = plV K b held w v0 i := by
  intro i
  induction i with
  | zero => rfl
  | succ i ih => rw [plV, plV, ih, u_j _ _ _ (by omega), u_j _ _ _ (by omega)]
theorem u_role (K : KK) (v : Int32) (m p w : Nat) : role (upd K 91 v) m p w = role K m p w := by
  rw [role, role, u_g, u_g, u_g, u_cntH, u_plV _ _ _ (by omega), u_j _ _ _ (by omega)]
theorem u_hasF (K : KK) (v p : Int32) : hasF (upd K 91 v) p = hasF K p := by rw [hasF, hasF, u_j _ _ _ (by omega), u_j _ _ _ (by omega)]
theorem u_ring (K : KK) (v s c : Int32) : ring (upd K 91 v) s c = ring K s c := by rw [ring, ring, u_j _ _ _ (by omega)]
theorem u_mind (K : KK) (v : Int32) (m p : Nat) (c f : Int32) : mind (upd K 91 v) m p c f = mind K m p c f := by
  unfold mind
  induction m with
  | zero => rfl
  | succ m ih => rw [mdL, mdL, ih, mdC, mdC, u_g, u_g, u_g, u_f]
theorem u_prey (K : KK) (v : Int32) (m p : Nat) (hK : KR K m) : prey (upd K 91 v) m p = prey K m p := by
  unfold prey
  rw [u_role, u_g, u_g]
  generalize (if role K m p 0 = nI 5 then gl (gP K p 0) else gP K p 3) = home
  suffices ∀ q, q ≤ m → pyL (upd K 91 v) m p home q = pyL K m p home q from this m (by omega)
  intro q
  induction q with
  | zero => intro _; rfl
  | succ q ih =>
    intro hq
    have hc : pyC (upd K 91 v) m p home q = pyC K m p home q := by
      unfold pyC
      rw [u_g, u_g, u_g, u_f, u_role]
      cases hf : frB K q
      · simp only [Bool.false_and]
      · have hcv := hK.2.2.2.2.1 q (by omega) (frB_z hf)
        rw [seB, seB, u_g, u_j _ _ _ (by have := cell_lt hcv; omega)]
    rw [pyL, pyL, ih (by omega), hc, u_g, u_g, u_g]
theorem u_cEn (K : KK) (v : Int32) (p : Nat) (x y : Int32) : cEn (upd K 91 v) p x y = cEn K p x y := by
  unfold cEn
  rw [u_ring, u_ring, u_g, u_g]
  cases h1 : wi x (nI 0) (nI 11)
  · rfl
  · cases h2 : wi y (nI 0) (nI 6)
    · rfl
    · obtain ⟨xn, a1, a2⟩ := wi_ex (by decide) h1
      obtain ⟨yn, b1, b2⟩ := wi_ex (by decide) h2
      rw [a2, b2, pk_mul, nI_add, u_j _ _ _ (by rw [clampI (by omega)]; omega)]
theorem u_acr (K : KK) (v : Int32) (p : Nat) (g : Int32) : acr (upd K 91 v) p g = acr K p g := by rw [acr, u_g, acr]
theorem u_dwn (K : KK) (v : Int32) (p : Nat) (g : Int32) : dwn (upd K 91 v) p g = dwn K p g := by rw [dwn, u_g, dwn]
theorem u_tX (K : KK) (v : Int32) (p : Nat) (g : Int32) : tX (upd K 91 v) p g = tX K p g := by rw [tX, u_acr, u_cEn, u_g, tX]
theorem u_tY (K : KK) (v : Int32) (p : Nat) (g : Int32) : tY (upd K 91 v) p g = tY K p g := by rw [tY, u_dwn, u_cEn, u_g, tY]
theorem u_vX (K : KK) (v : Int32) (p : Nat) (g : Int32) : vX (upd K 91 v) p g = vX K p g := by rw [vX, u_acr, u_g, vX]
theorem u_vY (K : KK) (v : Int32) (p : Nat) (g : Int32) : vY (upd K 91 v) p g = vY K p g := by rw [vY, u_dwn, u_g, vY]
theorem u_nxt (K : KK) (v : Int32) (p : Nat) (g : Int32) : nxt (upd K 91 v) p g = nxt K p g := by
  rw [nxt, u_acr, u_dwn, u_tX, u_tY, u_vX, u_vY, u_g, nxt]
theorem u_goal (K : KK) (v : Int32) (m p : Nat) (hK : KR K m) : goal (upd K 91 v) m p = goal K m p := by
  simp only [goal, u_hasF, u_role, u_prey K v m p hK, u_mind, u_nxt, u_cntH, u_g, u_j K v _ (show 96 + 2 * (1 - (gP K p 0).toNatClampNeg) ≠ 91 by omega)]
theorem u_ite {c : Prop} [Decidable c] (K1 K2 : KK) (v : Int32) : (if c then upd K1 91 v else upd K2 91 v) = upd (if c then K1 else K2) 91 v := by split <;> rfl
theorem u_td (K : KK) (v : Int32) (p e : Nat) (he : e < 2) : td (upd K 91 v) p e = upd (td K p e) 91 v := by
  unfold td
  rw [u_j _ _ _ (by omega), u_s _ _ _ _ (by omega), u_j _ _ _ (by omega), u_g, u_s _ _ _ _ (by omega), u_ite]
theorem u_tch (K : KK) (v : Int32) (p : Nat) : tch (upd K 91 v) p = upd (tch K p) 91 v := by
  have h1 : dz (upd K 91 v) = upd (dz K) 91 v := by rw [dz, u_j _ _ _ (by omega), u_s _ _ _ _ (by omega), dz]
  have h2 : dv (upd K 91 v) = dv K := by rw [dv, h1, u_j _ _ _ (by omega), dv]
  have h3 : tq (dz (upd K 91 v)) p = upd (tq (dz K) p) 91 v := by
    rw [h1, tq, u_j _ _ _ (by omega), u_s _ _ _ _ (by omega), u_td _ _ _ _ (by omega), u_td _ _ _ _ (by omega), tq]
  rw [tch, h3, h2, h1, u_j _ _ _ (by omega), tr, u_s _ _ _ _ (by omega), u_g, u_s _ _ _ _ (by omega), u_s _ _ _ _ (by omega), u_ite, tch, tr]
theorem u_rel (K : KK) (v : Int32) (p : Nat) : rel (upd K 91 v) p = upd (rel K p) 91 v := by
  rw [rel, u_s _ _ _ _ (by omega), u_g, u_s _ _ _ _ (by omega), u_s _ _ _ _ (by omega), rel]
theorem u_frL (s v : Int32) : ∀ (r p : Nat) (K : KK), frL s r p (upd K 91 v) = upd (frL s r p K) 91 v := by
  intro r
  induction r with
  | zero => intro p K; rfl
  | succ r ih =>
    intro p K
    rw [frL, frL, u_g, u_g, u_rel, u_j _ _ _ (by omega), ih, ih, u_ite, u_ite, u_ite]
theorem u_mfl (K : KK) (v : Int32) (p e : Nat) (to : Int32) (he : e < 2) : mfl (upd K 91 v) p e to = upd (mfl K p e to) 91 v := by
  rw [mfl, u_j _ _ _ (by omega), u_s _ _ _ _ (by omega), u_ite, mfl]
theorem u_mvA (K : KK) (v : Int32) (p : Nat) (to : Int32) (ht : cellv to) : mvA (upd K 91 v) p to = upd (mvA K p to) 91 v := by
  have := cell_lt ht
  rw [mvA, u_g, mv1, u_s _ _ _ _ (by omega), u_j _ _ _ (by omega), u_s _ _ _ _ (by omega), u_mfl _ _ _ _ _ (by omega), u_mfl _ _ _ _ _ (by omega), u_ite, mvA, mv1]
theorem u_mvT (K : KK) (v : Int32) (p : Nat) (to : Int32) (b : Nat) (hb : b < 2) : mvT (upd K 91 v) p to b = upd (mvT K p to b) 91 v := by
  rw [mvT, u_j _ _ _ (by omega), u_j _ _ _ (by omega), u_s _ _ _ _ (by omega), u_j _ _ _ (by omega), u_s _ _ _ _ (by omega), u_ite, u_ite, mvT]
theorem u_mvs (K : KK) (v : Int32) (m p : Nat) (hK : KR K m) (hp : p < m) (hf : gP K p 5 = nI 0) : mvs (upd K 91 v) m p = upd (mvs K m p) 91 v := by
  have hc := hK.2.2.2.2.1 p hp hf
  rw [mvs, u_goal _ _ _ _ hK, u_nxt, u_g, u_mvA _ _ _ _ (nxt_cell _ hc), u_mvT _ _ _ _ _ (by omega), mvF, u_cntH, u_frL, u_ite, u_ite, mvs, mvF]
theorem u_mt1 (K : KK) (v : Int32) (p : Nat) (s : Int32) (b : Bool) (q : Nat) : mt1 (upd K 91 v) p s b q = upd (mt1 K p s b q) 91 v := by
  rw [mt1, u_g, u_g, u_g, u_f, u_f, u_j _ _ _ (by omega), u_tch, u_tch, u_ite, u_ite, u_ite, u_ite, u_ite, u_ite, mt1]
theorem u_mtL (v : Int32) (p : Nat) (s : Int32) (b : Bool) : ∀ (r q : Nat) (K : KK), mtL p s b r q (upd K 91 v) = upd (mtL p s b r q K) 91 v := by
  intro r
  induction r with
  | zero => intro q K; rfl
  | succ r ih => intro q K; rw [mtL, u_mt1, ih, mtL]
theorem u_act (K : KK) (v : Int32) (m p : Nat) (hK : KR K m) (hp : p < m) (hf : gP K p 5 = nI 0) : act (upd K 91 v) m p = upd (act K m p) 91 v := by
  have h1 : (if 0 < gP (upd K 91 v) p 6 then upd (upd K 91 v) (114 + 7 * p + 6) (gP (upd K 91 v) p 6 - nI 1) else mvs (upd K 91 v) m p) = upd (if 0 < gP K p 6 then upd K (114 + 7 * p + 6) (gP K p 6 - nI 1) else mvs K m p) 91 v := by
    rw [u_g, u_s _ _ _ _ (by omega), u_mvs _ _ _ _ hK hp hf, u_ite]
  rw [act, h1, mts, u_g, u_g, u_mtL, acC, u_f, u_g, u_g, u_j _ _ _ (by omega), u_s _ _ _ _ (by omega), u_ite, u_ite, u_ite, act, mts, acC]
theorem u_scL (v : Int32) (m : Nat) : ∀ (r p : Nat) (K : KK), KR K m → p + r ≤ m → scL m r p (upd K 91 v) = upd (scL m r p K) 91 v := by
  intro r
  induction r with
  | zero => intro p K _ _; rfl
  | succ r ih =>
    intro p K hK hp
    rw [scL, scL, u_j _ _ _ (by omega), u_f]
    have h1 : (if frB K p = true then act (upd K 91 v) m p else upd K 91 v) = upd (if frB K p = true then act K m p else K) 91 v := by
      split
      · rw [u_act _ _ _ _ hK (by omega) (frB_z (by assumption))]
      · rfl
    rw [h1, ih _ _ (kr_if hK (by omega) rfl) (by omega), u_ite]
theorem scL_91 (m r p : Nat) (K : KK) (hK : KR K m) (hp : p + r ≤ m) : scL m r p K 91 = K 91 := by
  have h := u_scL (K 91) m r p K hK hp
  rw [upd_same] at h
  rw [h, pk_us]
/-- the class counts the second first -/
theorem sec_first (K : KK) (m : Nat) (hK : KR K m) : scL m m 0 (upd K 91 (K 91 + nI 1)) = sec K m := by
  rw [u_scL _ _ _ _ _ hK (by omega), sec, scL_91 _ _ _ _ hK (by omega)]
