/-- nothing but the wood at w has changed -/
def Out (h h1 : MH) (w : Nat) : Prop := ∀ q, q < w ∨ w + 18 ≤ q ∨ q = w + 7 → h1 q = h q
theorem Out.rf (h : MH) (w : Nat) : Out h h w := fun _ _ => rfl
theorem Out.set {h h1 : MH} {w : Nat} (ho : Out h h1 w) (a : Nat) (x : MC) (ha : w ≤ a) (hb : a < w + 18 ∧ a ≠ w + 7) : Out h (hset h1 a x) w := fun q hq => by rw [hset_ne _ _ (by omega)]; exact ho q hq
theorem Out.tr {h h1 h2 : MH} {w : Nat} (h12 : Out h h1 w) (h23 : Out h1 h2 w) : Out h h2 w := fun q hq => (h23 q hq).trans (h12 q hq)
/-- it ends with the wood at w showing K -/
def Wq (w : Nat) (K : KK) (cl P : Nat → Int32) (pn : Nat) (h : MH) (n : Nat) : Option Value → MH → Nat → Prop := fun r h1 n1 => r = none ∧ n1 = n ∧ WoodAt h1 w K cl P pn ∧ Out h h1 w
theorem WoodAt.cong {h : MH} {w : Nat} {K K1 : KK} {cl P : Nat → Int32} {pn : Nat} (hw : WoodAt h w K cl P pn) (e : ∀ j, K j = K1 j) : WoodAt h w K1 cl P pn := by
  rw [show K1 = K from funext (fun j => (e j).symm)]
  exact hw
theorem pF_lo (K : KK) (cl : Nat → Int32) (i : Nat) (v : Int32) (j : Nat) (hi : i < 114) : pF (upd K i v) cl j = pF K cl j := by
  simp only [pF, cAt, gP_lo _ _ _ _ _ hi]
theorem WoodAt.ob {h : MH} {w : Nat} {K : KK} {cl P : Nat → Int32} {pn : Nat} (hw : WoodAt h w K cl P pn) (i : Nat) (v : Int32) (h1 : 91 ≤ i) (h2 : i ≤ 95) : WoodAt (hset h w (.inr (4, woF (upd K i v) w pn))) w (upd K i v) cl P pn := by
  obtain ⟨a0, ⟨gr, b1, c1⟩, ⟨ru, b2, c2⟩, ⟨pq, b3, c3⟩, a4, ⟨fl, b5, c5⟩, ⟨ca, b6, c6⟩, ⟨wa, b7⟩, b8, b9⟩ := hw
  refine ⟨hset_self _ _ _, ⟨gr, by rw [hset_ne _ _ (by omega)]; exact b1, fun c hc => by rw [pk_un (by omega)]; exact c1 c hc⟩, ⟨ru, by rw [hset_ne _ _ (by omega)]; exact b2, fun c hc => by rw [pk_un (by omega)]; exact c2 c hc⟩, ⟨pq, by rw [hset_ne _ _ (by omega)]; exact b3, c3⟩, by rw [hset_ne _ _ (by omega)]; exact a4, ⟨fl, by rw [hset_ne _ _ (by omega)]; exact b5, fun c hc => by rw [pk_un (by omega)]; exact c5 c hc⟩, ⟨ca, by rw [hset_ne _ _ (by omega)]; exact b6, fun c hc => by rw [pk_un (by omega)]; exact c6 c hc⟩, ⟨wa, by rw [hset_ne _ _ (by omega)]; exact b7⟩, fun j hj => ?_, fun j hj => by rw [gP_lo _ _ _ _ _ (by omega)]; exact b9 j hj⟩
  rw [hset_ne _ _ (by omega), pF_lo _ _ _ _ _ (by omega)]
  exact b8 j hj
theorem woF_lo (K : KK) (w pn i : Nat) (v : Int32) (h1 : 96 ≤ i) : woF (upd K i v) w pn = woF K w pn := by
  simp only [woF, pk_un (f := K) (k := i) (x := v) (show 90 ≠ i by omega), pk_un (f := K) (k := i) (x := v) (show 91 ≠ i by omega), pk_un (f := K) (k := i) (x := v) (show 92 ≠ i by omega), pk_un (f := K) (k := i) (x := v) (show 93 ≠ i by omega), pk_un (f := K) (k := i) (x := v) (show 94 ≠ i by omega), pk_un (f := K) (k := i) (x := v) (show 95 ≠ i by omega)]
theorem WoodAt.flag {h : MH} {w : Nat} {K : KK} {cl P : Nat → Int32} {pn : Nat} (hw : WoodAt h w K cl P pn) {fl : Nat → Int32} (hfl : h (w + 5) = some (.inl (0, 2, .inl fl))) (e : Nat) (v : Int32) (he : e < 2) : WoodAt (hset h (w + 5) (.inl (0, 2, .inl (upd fl e v)))) w (upd K (96 + 2 * e) v) cl P pn := by
  obtain ⟨a0, ⟨gr, b1, c1⟩, ⟨ru, b2, c2⟩, ⟨pq, b3, c3⟩, a4, ⟨fl2, b5, c5⟩, ⟨ca, b6, c6⟩, ⟨wa, b7⟩, b8, b9⟩ := hw
  have e5 : fl = fl2 := by
    have := hfl.symm.trans b5
    simpa using this
  subst e5
  refine ⟨by rw [hset_ne _ _ (by omega), woF_lo _ _ _ _ _ (by omega)]; exact a0, ⟨gr, by rw [hset_ne _ _ (by omega)]; exact b1, fun c hc => by rw [pk_un (by omega)]; exact c1 c hc⟩, ⟨ru, by rw [hset_ne _ _ (by omega)]; exact b2, fun c hc => by rw [pk_un (by omega)]; exact c2 c hc⟩, ⟨pq, by rw [hset_ne _ _ (by omega)]; exact b3, c3⟩, by rw [hset_ne _ _ (by omega)]; exact a4, ⟨_, hset_self _ _ _, fun c hc => ?_⟩, ⟨ca, by rw [hset_ne _ _ (by omega)]; exact b6, fun c hc => by rw [pk_un (by omega)]; exact c6 c hc⟩, ⟨wa, by rw [hset_ne _ _ (by omega)]; exact b7⟩, fun j hj => ?_, fun j hj => by rw [gP_lo _ _ _ _ _ (by omega)]; exact b9 j hj⟩
  · by_cases q : c = e
    · rw [q, pk_us, pk_us]
    · rw [pk_un q, pk_un (by omega)]; exact c5 c hc
  · rw [hset_ne _ _ (by omega), pF_lo _ _ _ _ _ (by omega)]
    exact b8 j hj
theorem WoodAt.carr {h : MH} {w : Nat} {K : KK} {cl P : Nat → Int32} {pn : Nat} (hw : WoodAt h w K cl P pn) {ca : Nat → Int32} (hca : h (w + 6) = some (.inl (0, 2, .inl ca))) (e : Nat) (v : Int32) (he : e < 2) : WoodAt (hset h (w + 6) (.inl (0, 2, .inl (upd ca e v)))) w (upd K (97 + 2 * e) v) cl P pn := by
  obtain ⟨a0, ⟨gr, b1, c1⟩, ⟨ru, b2, c2⟩, ⟨pq, b3, c3⟩, a4, ⟨fl, b5, c5⟩, ⟨ca2, b6, c6⟩, ⟨wa, b7⟩, b8, b9⟩ := hw
  have e6 : ca = ca2 := by
    have := hca.symm.trans b6
    simpa using this
  subst e6
  refine ⟨by rw [hset_ne _ _ (by omega), woF_lo _ _ _ _ _ (by omega)]; exact a0, ⟨gr, by rw [hset_ne _ _ (by omega)]; exact b1, fun c hc => by rw [pk_un (by omega)]; exact c1 c hc⟩, ⟨ru, by rw [hset_ne _ _ (by omega)]; exact b2, fun c hc => by rw [pk_un (by omega)]; exact c2 c hc⟩, ⟨pq, by rw [hset_ne _ _ (by omega)]; exact b3, c3⟩, by rw [hset_ne _ _ (by omega)]; exact a4, ⟨fl, by rw [hset_ne _ _ (by omega)]; exact b5, fun c hc => by rw [pk_un (by omega)]; exact c5 c hc⟩, ⟨_, hset_self _ _ _, fun c hc => ?_⟩, ⟨wa, by rw [hset_ne _ _ (by omega)]; exact b7⟩, fun j hj => ?_, fun j hj => by rw [gP_lo _ _ _ _ _ (by omega)]; exact b9 j hj⟩
  · by_cases q : c = e
    · rw [q, pk_us, pk_us]
    · rw [pk_un q, pk_un (by omega)]; exact c6 c hc
  · rw [hset_ne _ _ (by omega), pF_lo _ _ _ _ _ (by omega)]
    exact b8 j hj
theorem pF_ne (K : KK) (cl : Nat → Int32) (p u : Nat) (v : Int32) (j : Nat) (hu : u < 7) (hj : j ≠ p) : pF (upd K (114 + 7 * p + u) v) cl j = pF K cl j := by
  simp only [pF, cAt]
  rw [gP_upd _ _ _ _ _ _ hu (by omega), gP_upd _ _ _ _ _ _ hu (by omega), gP_upd _ _ _ _ _ _ hu (by omega), gP_upd _ _ _ _ _ _ hu (by omega), gP_upd _ _ _ _ _ _ hu (by omega), gP_upd _ _ _ _ _ _ hu (by omega), gP_upd _ _ _ _ _ _ hu (by omega)]
  simp only [hj, false_and, if_false]
/-- a player's number u of the reference, and what the class's player shows then -/
theorem WoodAt.pl {h : MH} {w : Nat} {K : KK} {cl P : Nat → Int32} {pn : Nat} (hw : WoodAt h w K cl P pn) (p u : Nat) (v : Int32) (hp : p < 10) (hu : u = 4 ∨ u = 5 ∨ u = 6) (h5 : u = 5 → v = nI 0 ∨ v = nI 1 ∨ v = nI 2) : WoodAt (hset h (w + 8 + p) (.inr (0, pF (upd K (114 + 7 * p + u) v) cl p))) w (upd K (114 + 7 * p + u) v) cl P pn := by
  obtain ⟨a0, ⟨gr, b1, c1⟩, ⟨ru, b2, c2⟩, ⟨pq, b3, c3⟩, a4, ⟨fl, b5, c5⟩, ⟨ca, b6, c6⟩, ⟨wa, b7⟩, b8, b9⟩ := hw
  refine ⟨by rw [hset_ne _ _ (by omega), woF_lo _ _ _ _ _ (by omega)]; exact a0, ⟨gr, by rw [hset_ne _ _ (by omega)]; exact b1, fun c hc => by rw [pk_un (by omega)]; exact c1 c hc⟩, ⟨ru, by rw [hset_ne _ _ (by omega)]; exact b2, fun c hc => by rw [pk_un (by omega)]; exact c2 c hc⟩, ⟨pq, by rw [hset_ne _ _ (by omega)]; exact b3, c3⟩, by rw [hset_ne _ _ (by omega)]; exact a4, ⟨fl, by rw [hset_ne _ _ (by omega)]; exact b5, fun c hc => by rw [pk_un (by omega)]; exact c5 c hc⟩, ⟨ca, by rw [hset_ne _ _ (by omega)]; exact b6, fun c hc => by rw [pk_un (by omega)]; exact c6 c hc⟩, ⟨wa, by rw [hset_ne _ _ (by omega)]; exact b7⟩, fun j hj => ?_, fun j hj => ?_⟩
  · by_cases q : j = p
    · rw [q, hset_self]
    · rw [hset_ne _ _ (by omega), pF_ne _ _ _ _ _ _ (by omega) q]
      exact b8 j hj
  · rw [gP_upd _ _ _ _ _ _ (by omega) (by omega)]
    split
    · rename_i q
      exact h5 q.2.symm
    · exact b9 j hj
/-- the class's player after a change of where it is, what is left, whether it is held -/
theorem pF_cell (K : KK) (cl : Nat → Int32) (p : Nat) (v : Int32) (hn : ¬ gP K p 5 = nI 2) : (pF K cl p).set 4 (.int v) = pF (upd K (114 + 7 * p + 4) v) cl p := by
  simp only [pF, cAt, gP_upd _ _ _ _ _ _ (show 4 < 7 by omega) (show 0 < 7 by omega), gP_upd _ _ _ _ _ _ (show 4 < 7 by omega) (show 1 < 7 by omega), gP_upd _ _ _ _ _ _ (show 4 < 7 by omega) (show 2 < 7 by omega), gP_upd _ _ _ _ _ _ (show 4 < 7 by omega) (show 3 < 7 by omega), gP_upd _ _ _ _ _ _ (show 4 < 7 by omega) (show 4 < 7 by omega), gP_upd _ _ _ _ _ _ (show 4 < 7 by omega) (show 5 < 7 by omega), gP_upd _ _ _ _ _ _ (show 4 < 7 by omega) (show 6 < 7 by omega)]
  simp [hn]
theorem pF_left (K : KK) (cl : Nat → Int32) (p : Nat) (v : Int32) : (pF K cl p).set 5 (.int v) = pF (upd K (114 + 7 * p + 6) v) cl p := by
  simp only [pF, cAt, gP_upd _ _ _ _ _ _ (show 6 < 7 by omega) (show 0 < 7 by omega), gP_upd _ _ _ _ _ _ (show 6 < 7 by omega) (show 1 < 7 by omega), gP_upd _ _ _ _ _ _ (show 6 < 7 by omega) (show 2 < 7 by omega), gP_upd _ _ _ _ _ _ (show 6 < 7 by omega) (show 3 < 7 by omega), gP_upd _ _ _ _ _ _ (show 6 < 7 by omega) (show 4 < 7 by omega), gP_upd _ _ _ _ _ _ (show 6 < 7 by omega) (show 5 < 7 by omega), gP_upd _ _ _ _ _ _ (show 6 < 7 by omega) (show 6 < 7 by omega)]
  simp
theorem pF_held (K : KK) (cl : Nat → Int32) (p : Nat) (b : Bool) (hn : ¬ gP K p 5 = nI 2) : (pF K cl p).set 6 (.int (bI b)) = pF (upd K (114 + 7 * p + 5) (bI b)) cl p := by
  have h1 : ¬ bI b = nI 2 := by cases b <;> decide
  have h2 : decide (bI b = nI 1) = b := by cases b <;> decide
  simp only [pF, cAt, gP_upd _ _ _ _ _ _ (show 5 < 7 by omega) (show 0 < 7 by omega), gP_upd _ _ _ _ _ _ (show 5 < 7 by omega) (show 1 < 7 by omega), gP_upd _ _ _ _ _ _ (show 5 < 7 by omega) (show 2 < 7 by omega), gP_upd _ _ _ _ _ _ (show 5 < 7 by omega) (show 3 < 7 by omega), gP_upd _ _ _ _ _ _ (show 5 < 7 by omega) (show 4 < 7 by omega), gP_upd _ _ _ _ _ _ (show 5 < 7 by omega) (show 5 < 7 by omega), gP_upd _ _ _ _ _ _ (show 5 < 7 by omega) (show 6 < 7 by omega)]
  simp [hn, h1, h2]
