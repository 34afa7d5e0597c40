def ls0 : List Value → List (Option Value)
  | [] => []
  | v :: r => if v.category = 2 then some v :: none :: ls0 r else some v :: ls0 r
/-- the locals at a method's entry -/
def lsE (nL : Nat) (as : List Value) : List (Option Value) := ls0 as ++ List.replicate (nL - (ls0 as).length) none
theorem lvl_none (ad : Nat → Nat) : ∀ (k i : Nat), lvl ad i (List.replicate k none) = [] := by
  intro k
  induction k with
  | zero => intro i; rfl
  | succ k ih => intro i; rw [List.replicate_succ]; exact ih (i + 1)
theorem lvl_entry (ad : Nat → Nat) (k : Nat) : ∀ (as : List Value) (i : Nat), lvl ad i (ls0 as ++ List.replicate k none) = lv_args i (as.map (mv ad)) := by
  intro as
  induction as with
  | nil => intro i; exact lvl_none ad k i
  | cons v r ih =>
    intro i
    by_cases hc : v.category = 2
    · rw [show ls0 (v :: r) = some v :: none :: ls0 r by simp [ls0, hc]]
      show (i, mv ad v) :: lvl ad (i + 1 + 1) (ls0 r ++ List.replicate k none) = (i, mv ad v) :: lv_args (if (mv ad v).category = 2 then i + 2 else i + 1) (r.map (mv ad))
      rw [mv_cat, if_pos hc, ih]
    · rw [show ls0 (v :: r) = some v :: ls0 r by simp [ls0, hc]]
      show (i, mv ad v) :: lvl ad (i + 1) (ls0 r ++ List.replicate k none) = (i, mv ad v) :: lv_args (if (mv ad v).category = 2 then i + 2 else i + 1) (r.map (mv ad))
      rw [mv_cat, if_neg hc, ih]
theorem ls0_len (ad : Nat → Nat) : ∀ as : List Value, (lg_sl (as.map (mv ad))).length = (ls0 as).length := by
  intro as
  induction as with
  | nil => rfl
  | cons v r ih =>
    by_cases hc : v.category = 2
    · have hc2 : (mv ad v).category = 2 := by rw [mv_cat]; exact hc
      simp [lg_sl, ls0, hc, hc2] at ih ⊢
      omega
    · have hc2 : ¬ (mv ad v).category = 2 := by rw [mv_cat]; exact hc
      simp [lg_sl, ls0, hc, hc2] at ih ⊢
      omega
def WS (M : MT) : List Cond := Cond.code M.1 M.2.1 M.2.2.1 M.2.2.2 :: WG
def rmv (d c z : Nat) : Room := { frames := d, cells := c, slots := z, locals := 40 * d }
def PcV (D : va_G) (T : Nat → ClassId) (ad adV : Nat → Nat) (B : Nat) (As : List Value) (h : MH) (n : Nat) : Array Value → State → Prop := fun a U => a = (As.map (mv ad)).toArray ∧ KC D T U ∧ XF ad adV B U U.heap ∧ Wd D T ad B h n U.heap
def QcV (D : va_G) (T : Nat → ClassId) (ad : Nat → Nat) (B : Nat) (Q : Option Value → MH → Nat → Prop) : Array Value → State → Outcome → State → Prop := fun _ st oc t => (∃ (r : Option Value) (h : MH) (n : Nat), oc = .returned (r.map (mv ad)) ∧ Q r h n ∧ Wd D T ad B h n t.heap) ∧ va_F (fun q => B ≤ q) st t
theorem PcV.blind {D : va_G} {T : Nat → ClassId} {ad adV : Nat → Nat} {B : Nat} {As : List Value} {h : MH} {n : Nat} : FrameBlind (PcV D T ad adV B As h n) := fun a U g mk q => ⟨q.1, KC.same (u := U) (U := U.calling g mk a) rfl q.2.1, XF.same (u := U) (U := U.calling g mk a) rfl q.2.2.1, q.2.2.2⟩
theorem Met.ofV {l : Launch} {M : MT} {d n c z : Nat} {h : MH} {Q : Option Value → MH → Nat → Prop} {As : List Value} {D : va_G} {T : Nat → ClassId} {ad adV : Nat → Nat} {B : Nat} (hlt : l.stackTraces = false) (had : ∀ k, k < 1000000 → ad k = B + k) (hp : plainName M.1.cls = true) (hlen : (ls0 As).length ≤ M.2.2.1)
    (hV : V l M d 0 (lsE M.2.2.1 As) [] h n c z Q) : Met l M.1 (WS M) (rmv d c z) (PcV D T ad adV B As h n) (QcV D T ad B Q) c z (fun q => B ≤ q) := by
  refine Met.ofW (cc := M.2.1) (maxL := M.2.2.1) (ret := M.2.2.2) hp rfl ?_
  intro p e s m args below meth cd s₁ Bd hml hv
  obtain ⟨rfl, hK, hX, hW⟩ := hv
  have hts := atoms_spec (ws := WS M) Bd.pre
  have hlv := lv_entry (As.map (mv ad)) (n := M.2.2.1) (by rw [ls0_len]; exact hlen)
  rw [lg_entry_eq]
  have hlocks := Bd.notSynchronized
  refine hV p e (rmv d c z) s m _ below meth cd D T ad adV B _ s.heap [] 0 0 c z _ ⟨Bd.exec, Bd.bytes, hml, findClass_of_methodNamed Bd.named, fun w hw => hts w (List.mem_cons_of_mem _ hw), hK, hX, had, by rw [hW.1]; omega, Nat.le_refl _, Nat.le_refl _, fun h => (name_of_methodNamed Bd.named Bd.method).1.trans h, hlt⟩ hW va_S.rf (by omega) (by omega) (Nat.le_refl _) (Nat.le_refl _) ?_ ?_
  · show lv_has _ _ _
    rw [lsE, lvl_entry]
    exact hlv
  · intro pc lsA r h1 n1 H locs cells slots hR hQ hW1 hS1 hc hz
    refine W.widen hc hz ?_
    have hq : ∀ t : State, t.heap = H → s.WarmedH t.vm → QcV D T ad B Q (As.map (mv ad)).toArray s (.returned (r.map (mv ad))) t := fun t ht _ => ⟨⟨r, h1, n1, rfl, hQ, by rw [ht]; exact hW1⟩, hS1.F ht⟩
    have hf : ∀ q ∈ locs, (fun q => B ≤ q) q.base := hS1.2.2
    match r, hR, hq with
    | none, hR, hq => exact W.vret Bd.exec Bd.bytes (Bd.returns.trans hR.2) hq hf hR.1 hlocks
    | some (.int v), hR, hq =>
      obtain ⟨h0, ty, h2, h3⟩ := hR
      exact W.zret Bd.exec Bd.bytes (Bd.returns.trans h2) h3 hq hf h0 hlocks
    | some (.long v), hR, hq => exact W.lret Bd.exec Bd.bytes (Bd.returns.trans hR.2) hq hf hR.1 hlocks
    | some (.ref v), hR, hq =>
      obtain ⟨h0, C0, h2⟩ := hR
      exact W.aret Bd.exec Bd.bytes (Bd.returns.trans h2) (Or.inl ⟨_, rfl⟩) (Or.inr ⟨_, rfl⟩) hq hf h0 hlocks
/-- behind a call -/
theorem m_after {p : Program} {l : Launch} {e : Env} {R : Room} {s : State} {m : MethodId} {args : Array Value} {below : List Frame} {meth : Method} {cd : Code} {H : Heap} {locs : List Loc} {cells slots c1 z1 : Nat} {Qs : State → Prop} {pc : Nat} {lsA : Array Slot} {st0 rest : List Value} {a : Array Value} {D : va_G} {T : Nat → ClassId} {ad : Nat → Nat} {B : Nat} {Q1 : Option Value → MH → Nat → Prop}
    (hr : va_Run p l e R s m args below meth cd H locs cells slots c1 z1 (F0 m pc lsA st0) rest (QcV D T ad B Q1 a) (fun q => B ≤ q)) (hS : va_S (fun q => B ≤ q) s.heap H locs)
    (kk : ∀ (r : Option Value) (h1 : MH) (n1 : Nat) (H1 : Heap) (locs1 : List Loc), Q1 r h1 n1 → Wd D T ad B h1 n1 H1 → va_S (fun q => B ≤ q) s.heap H1 locs1 → W p l e R s m args below meth cd H1 locs1 (cells + c1) (slots + z1) Qs (F0 m (pc + 3) lsA ((r.map (mv ad)).toList ++ rest))) :
    W p l e R s m args below meth cd H locs cells slots Qs (F0 m pc lsA st0) := by
  intro U hU X
  obtain ⟨v, st₀, t, U', L, h0, X', hL, e1, e2, ⟨⟨r, h1, n1, hv, hq, hw⟩, hz, hk⟩, st⟩ := hr U hU X
  cases hv
  rw [h0] at hz hk
  obtain ⟨t2, a1, b1⟩ := kk r h1 n1 U'.heap (locs ++ L) hq (by rw [e1]; exact hw) ⟨Nat.le_trans hS.1 (by rw [e1]; exact hz), fun q h1 h2 => by rw [e1, hk q (Nat.lt_of_lt_of_le h1 hS.1) h2]; exact hS.2.1 q h1 h2, fun q hq => by
      rcases List.mem_append.mp hq with h | h
      · exact hS.2.2 q h
      · exact hL q h⟩ U' rfl X'
  exact ⟨t2, st t2 a1, b1⟩
/-- what the tables say of a callee with k arguments -/
def Lk0 (N : MT) (k : Nat) : Prop := Cond.initialized N.1.cls ∈ WG ∧ Cond.code N.1 N.2.1 N.2.2.1 N.2.2.2 ∈ WG ∧ (N.1.cls ≠ "java/lang/invoke/MethodHandle" ∧ N.1.cls ≠ "java/lang/invoke/VarHandle" ∧ (parseMethodDescriptor N.1.desc).map (fun d => d.parameters.length) = some k) ∧ N.2.2.1 ≤ 21 ∧ plainName N.1.cls = true
def LkS (own : String) (idx : Nat) (N : MT) (k : Nat) : Prop := (Cond.methodLink own idx N.1 ∈ WG ∨ Cond.methodLinkNest own idx N.1 "TwoFlags" ∈ NL) ∧ Cond.static N.1 ∈ WG ∧ Lk0 N k
def LkV (own : String) (idx : Nat) (N : MT) (k : Nat) : Prop := (Cond.methodLink own idx N.1 ∈ WG ∨ Cond.methodLinkNest own idx N.1 "TwoFlags" ∈ NL) ∧ (Cond.instanceMethod N.1 ∈ WG ∧ Cond.selects N.1.cls N.1 N.1 ∈ WG) ∧ Lk0 N k
def LkI (own : String) (idx : Nat) (N : MT) (k : Nat) : Prop := (Cond.methodLink own idx N.1 ∈ WG ∨ Cond.methodLinkNest own idx N.1 "TwoFlags" ∈ NL) ∧ (Cond.instanceMethod N.1 ∈ WG ∧ N.1.name = "<init>" ∧ N.2.2.2 = none) ∧ Lk0 N k
theorem wg_good {M : MT} (h : Cond.code M.1 M.2.1 M.2.2.1 M.2.2.2 ∈ WG) : GoodIn WG (WS M) := by
  intro w hw
  have h1 : w ∈ WG := (List.mem_cons.mp hw).elim (fun e => by rw [e]; exact h) id
  exact ⟨h1, good_of_word (List.mem_filter.mp h1).2⟩
theorem sum_cat (ad : Nat → Nat) (st : List Value) : ((st.map (mv ad)).map fun v => v.category).sum = (st.map fun v => v.category).sum := by
  rw [List.map_map]
  congr 1
  exact List.map_congr_left (fun v _ => mv_cat ad v)
section VCL
variable {l : Launch} {M : MT} {d pc : Nat} {ls : List (Option Value)} {st : List Value} {h : MH} {n c z : Nat} {Q : Option Value → MH → Nat → Prop}
theorem V.callS {N : MT} {idx k c1 z1 : Nat} {Q1 : Option Value → MH → Nat → Prop} (As : List Value) (hd : decode M.2.1 pc = .ok (.invokestatic idx, 3)) (hk : LkS M.1.cls idx N k) (hA : As.length = k) (hlen : (ls0 As).length ≤ N.2.2.1) (hst : (st.map fun v => v.category).sum ≤ 8)
    (hN : V l N d 0 (lsE N.2.2.1 As) [] h n c1 z1 Q1) (kk : ∀ (r : Option Value) (h1 : MH) (n1 : Nat), Q1 r h1 n1 → V l M (d + 1) (pc + 3) ls (r.toList ++ st) h1 n1 c z Q) : V l M (d + 1) pc ls (As.reverse ++ st) h n (c + c1) (z + z1) Q := by
  intro p e R s m args below meth cd D T ad adV B lsA H locs cells slots cm sm Qs C hW hS hc hz hcm hzm hl hE
  obtain ⟨hx, hb, hml, hown, hts, hK, hX, had, hB, hR1, hR2, hin, hlt⟩ := id C
  obtain ⟨hlk, hstt, hini, hcode, ⟨hd1, hd2, hd3⟩, hnl, hpl⟩ := hk
  have hM : Met l N.1 (WS N) (rmv d c1 z1) (PcV D T ad adV B As h n) (QcV D T ad B Q1) c1 z1 (fun q => B ≤ q) := Met.ofV hlt had hpl hlen hN
  have hpre : PreS s H (PcV D T ad adV B As h n) (As.map (mv ad)) := ⟨PcV.blind, fun U hU hWm => ⟨rfl, hK.warm hWm, by rw [hU]; exact (hX.kept hS.2.1).warm hWm, by rw [hU]; exact hW⟩⟩
  have hrun : va_Run p l e R s m args below meth cd H locs cells slots c1 z1 (F0 m pc lsA ((As.reverse ++ st).map (mv ad))) (st.map (mv ad)) (QcV D T ad B Q1 (As.map (mv ad)).toArray) (fun q => B ≤ q) := by
    have hstk : (F0 m pc lsA ((As.reverse ++ st).map (mv ad))).stack = (As.map (mv ad)).reverse ++ st.map (mv ad) := by
      show (As.reverse ++ st).map (mv ad) = _
      rw [List.map_append, List.map_reverse]
    have hroom : 2 * (F0 m pc lsA ((As.reverse ++ st).map (mv ad))).monitorRoom + ((st.map (mv ad)).map fun v => v.category).sum ≤ 8 := lv_room (by rw [sum_cat]; exact hst)
    have hRR : (rmv d c1 z1).frames + 1 ≤ R.frames ∧ 8 + (N.2.2.1 + 11) + (rmv d c1 z1).locals ≤ R.locals := ⟨hR1, by show 8 + (N.2.2.1 + 11) + 40 * d ≤ _; omega⟩
    rcases hlk with hlk | hlk
    · exact va_runS (Ts := WG) ⟨hx, hb, hml, hown, hts⟩ hM ⟨callB_of k hts (wg_good hcode) rfl rfl rfl (hts _ hini) (hts _ hlk) ⟨hd1, hd2, hd3⟩ hRR, hts _ hstt⟩ hpre rfl (by rw [List.length_map]; exact hA) hl.1 hstk hroom hd ⟨by omega, by omega⟩
    · exact va_runSN (Ts := WG) ⟨hx, hb, hml, hown, hts⟩ hM ⟨va_cnB k hts (wg_good hcode) rfl rfl rfl (hK.2.1 _ hlk) (hts _ hini) ⟨hd1, hd2, hd3⟩ hRR, hts _ hstt, trivial⟩ hpre rfl (by rw [List.length_map]; exact hA) hl.1 hstk hroom hd ⟨by omega, by omega⟩
  refine m_after hrun hS (fun r h1 n1 H1 locs1 hq hW1 hS1 => ?_)
  have k1 := kk r h1 n1 hq p e R s m args below meth cd D T ad adV B lsA H1 locs1 (cells + c1) (slots + z1) cm sm Qs C hW1 hS1 (by omega) (by omega) hcm hzm hl hE
  rw [List.map_append, show (r.toList).map (mv ad) = (r.map (mv ad)).toList by cases r <;> rfl] at k1
  exact k1
theorem V.callV {N : MT} {idx k c1 z1 b ci : Nat} {fs : List Value} {Q1 : Option Value → MH → Nat → Prop} (As : List Value) (hd : decode M.2.1 pc = .ok (.invokevirtual idx, 3)) (hk : LkV M.1.cls idx N k) (hA : As.length = k) (hlen : (ls0 (.ref b :: As)).length ≤ N.2.2.1) (hst : (st.map fun v => v.category).sum ≤ 8)
    (hb0 : h b = some (.inr (ci, fs))) (hci : (classes[ci]?).map (fun q => q.1) = some N.1.cls)
    (hN : V l N d 0 (lsE N.2.2.1 (.ref b :: As)) [] h n c1 z1 Q1) (kk : ∀ (r : Option Value) (h1 : MH) (n1 : Nat), Q1 r h1 n1 → V l M (d + 1) (pc + 3) ls (r.toList ++ st) h1 n1 c z Q) : V l M (d + 1) pc ls (As.reverse ++ .ref b :: st) h n (c + c1) (z + z1) Q := by
  intro p e R s m args below meth cd D T ad adV B lsA H locs cells slots cm sm Qs C hW hS hc hz hcm hzm hl hE
  obtain ⟨hx, hb, hml, hown, hts, hK, hX, had, hB, hR1, hR2, hin, hlt⟩ := id C
  obtain ⟨hlk, ⟨hstt, hsel⟩, hini, hcode, ⟨hd1, hd2, hd3⟩, hnl, hpl⟩ := hk
  have hM : Met l N.1 (WS N) (rmv d c1 z1) (PcV D T ad adV B (.ref b :: As) h n) (QcV D T ad B Q1) c1 z1 (fun q => B ≤ q) := Met.ofV hlt had hpl hlen hN
  have hrec : ∃ cellB : Cell, H[ad b]? = some cellB ∧ cellB.vm.isStatics = false ∧ s.vm.findClass N.1.cls = some cellB.cls := by
    obtain ⟨q, h1, cell, g1, g2, g3, -⟩ := (hW.2.2 b _ hb0).2
    rw [h1] at hci
    have hq : q.1 = N.1.cls := Option.some.inj hci
    exact ⟨cell, g1, by rw [g3]; rfl, by rw [g2, ← hq]; exact (hK.1.1 ci q h1).2.1⟩
  have hpre : PreV s H N.1.cls (ad b) (PcV D T ad adV B (.ref b :: As) h n) (As.map (mv ad)) := ⟨PcV.blind, hrec, fun U hU hWm => ⟨rfl, hK.warm hWm, by rw [hU]; exact (hX.kept hS.2.1).warm hWm, by rw [hU]; exact hW⟩⟩
  have hrun : va_Run p l e R s m args below meth cd H locs cells slots c1 z1 (F0 m pc lsA ((As.reverse ++ .ref b :: st).map (mv ad))) (st.map (mv ad)) (QcV D T ad B Q1 (Value.ref (ad b) :: As.map (mv ad)).toArray) (fun q => B ≤ q) := by
    have hstk : (F0 m pc lsA ((As.reverse ++ .ref b :: st).map (mv ad))).stack = (As.map (mv ad)).reverse ++ .ref (ad b) :: st.map (mv ad) := by
      show (As.reverse ++ .ref b :: st).map (mv ad) = _
      rw [List.map_append, List.map_reverse]
      rfl
    have hroom : 2 * (F0 m pc lsA ((As.reverse ++ .ref b :: st).map (mv ad))).monitorRoom + ((st.map (mv ad)).map fun v => v.category).sum ≤ 8 := lv_room (by rw [sum_cat]; exact hst)
    have hRR : (rmv d c1 z1).frames + 1 ≤ R.frames ∧ 8 + (N.2.2.1 + 11) + (rmv d c1 z1).locals ≤ R.locals := ⟨hR1, by show 8 + (N.2.2.1 + 11) + 40 * d ≤ _; omega⟩
    rcases hlk with hlk | hlk
    · exact va_runV (Ts := WG) ⟨hx, hb, hml, hown, hts⟩ hM ⟨callB_of k hts (wg_good hcode) rfl rfl rfl (hts _ hini) (hts _ hlk) ⟨hd1, hd2, hd3⟩ hRR, hts _ hstt, hts _ hsel⟩ hpre rfl (by rw [List.length_map]; exact hA) hl.1 hstk hroom hd ⟨by omega, by omega⟩
    · exact va_runVN (Ts := WG) ⟨hx, hb, hml, hown, hts⟩ hM ⟨va_cnB k hts (wg_good hcode) rfl rfl rfl (hK.2.1 _ hlk) (hts _ hini) ⟨hd1, hd2, hd3⟩ hRR, hts _ hstt, hts _ hsel⟩ hpre rfl (by rw [List.length_map]; exact hA) hl.1 hstk hroom hd ⟨by omega, by omega⟩
  refine m_after hrun hS (fun r h1 n1 H1 locs1 hq hW1 hS1 => ?_)
  have k1 := kk r h1 n1 hq p e R s m args below meth cd D T ad adV B lsA H1 locs1 (cells + c1) (slots + z1) cm sm Qs C hW1 hS1 (by omega) (by omega) hcm hzm hl hE
  rw [List.map_append, show (r.toList).map (mv ad) = (r.map (mv ad)).toList by cases r <;> rfl] at k1
  exact k1
theorem V.callI {N : MT} {idx k c1 z1 b : Nat} {Q1 : Option Value → MH → Nat → Prop} (As : List Value) (hd : decode M.2.1 pc = .ok (.invokespecial idx, 3)) (hk : LkI M.1.cls idx N k) (hA : As.length = k) (hlen : (ls0 (.ref b :: As)).length ≤ N.2.2.1) (hst : (st.map fun v => v.category).sum ≤ 8)
    (hN : V l N d 0 (lsE N.2.2.1 (.ref b :: As)) [] h n c1 z1 Q1) (kk : ∀ (r : Option Value) (h1 : MH) (n1 : Nat), Q1 r h1 n1 → V l M (d + 1) (pc + 3) ls (r.toList ++ st) h1 n1 c z Q) : V l M (d + 1) pc ls (As.reverse ++ .ref b :: st) h n (c + c1) (z + z1) Q := by
  intro p e R s m args below meth cd D T ad adV B lsA H locs cells slots cm sm Qs C hW hS hc hz hcm hzm hl hE
  obtain ⟨hx, hb, hml, hown, hts, hK, hX, had, hB, hR1, hR2, hin, hlt⟩ := id C
  obtain ⟨hlk, ⟨hstt, hnm, hret⟩, hini, hcode, ⟨hd1, hd2, hd3⟩, hnl, hpl⟩ := hk
  have hM : Met l N.1 (WS N) (rmv d c1 z1) (PcV D T ad adV B (.ref b :: As) h n) (QcV D T ad B Q1) c1 z1 (fun q => B ≤ q) := Met.ofV hlt had hpl hlen hN
  have hpre : PreS s H (PcV D T ad adV B (.ref b :: As) h n) (.ref (ad b) :: As.map (mv ad)) := ⟨PcV.blind, fun U hU hWm => ⟨rfl, hK.warm hWm, by rw [hU]; exact (hX.kept hS.2.1).warm hWm, by rw [hU]; exact hW⟩⟩
  have hrun : va_Run p l e R s m args below meth cd H locs cells slots c1 z1 (F0 m pc lsA ((As.reverse ++ .ref b :: st).map (mv ad))) (st.map (mv ad)) (QcV D T ad B Q1 (Value.ref (ad b) :: As.map (mv ad)).toArray) (fun q => B ≤ q) := by
    have hstk : (F0 m pc lsA ((As.reverse ++ .ref b :: st).map (mv ad))).stack = (As.map (mv ad)).reverse ++ .ref (ad b) :: st.map (mv ad) := by
      show (As.reverse ++ .ref b :: st).map (mv ad) = _
      rw [List.map_append, List.map_reverse]
      rfl
    have hroom : 2 * (F0 m pc lsA ((As.reverse ++ .ref b :: st).map (mv ad))).monitorRoom + ((st.map (mv ad)).map fun v => v.category).sum ≤ 8 := lv_room (by rw [sum_cat]; exact hst)
    have hRR : (rmv d c1 z1).frames + 1 ≤ R.frames ∧ 8 + (N.2.2.1 + 11) + (rmv d c1 z1).locals ≤ R.locals := ⟨hR1, by show 8 + (N.2.2.1 + 11) + 40 * d ≤ _; omega⟩
    have hws : WS N = Cond.code N.1 N.2.1 N.2.2.1 none :: WG := by rw [WS, hret]
    rcases hlk with hlk | hlk
    · exact va_runI (Ts := WG) (bytes := N.2.1) (maxL := N.2.2.1) ⟨hx, hb, hml, hown, hts⟩ hM ⟨callB_of k hts (wg_good hcode) hws rfl rfl (hts _ hini) (hts _ hlk) ⟨hd1, hd2, hd3⟩ hRR, hnm, hts _ hstt⟩ hpre rfl (by rw [List.length_map]; exact hA) hl.1 hstk hroom hd ⟨by omega, by omega⟩
    · exact va_runIN (Ts := WG) (bytes := N.2.1) (maxL := N.2.2.1) ⟨hx, hb, hml, hown, hts⟩ hM ⟨va_cnB k hts (wg_good hcode) hws rfl rfl (hK.2.1 _ hlk) (hts _ hini) ⟨hd1, hd2, hd3⟩ hRR, hnm, hts _ hstt⟩ hpre rfl (by rw [List.length_map]; exact hA) hl.1 hstk hroom hd ⟨by omega, by omega⟩
  refine m_after hrun hS (fun r h1 n1 H1 locs1 hq hW1 hS1 => ?_)
  have k1 := kk r h1 n1 hq p e R s m args below meth cd D T ad adV B lsA H1 locs1 (cells + c1) (slots + z1) cm sm Qs C hW1 hS1 (by omega) (by omega) hcm hzm hl hE
  rw [List.map_append, show (r.toList).map (mv ad) = (r.map (mv ad)).toList by cases r <;> rfl] at k1
  exact k1
end VCL
