/-! THE LAW: what its cases need -/
abbrev mL_law : MT := (yL_law, cL_law, 8, (some .boolean))
def QL : Option Value → MH → Nat → Prop := fun r _ _ => r = some (.int 1)
section LAWT
variable {l : Launch} {M : MT} {d pc : Nat} {ls : List (Option Value)} {st : List Value} {h : MH} {n c z : Nat} {Q : Option Value → MH → Nat → Prop}
theorem VP.cz {X : PX l M d Q} {c1 z1 : Nat} (hc1 : c1 ≤ c) (hz1 : z1 ≤ z) (k : VP X pc ls st h n c1 z1) : VP X pc ls st h n c z := by
  intro lsA H locs cells slots hW hS hc hz hl
  exact k lsA H locs cells slots hW hS (by omega) (by omega) hl
theorem VP.weak {X : PX l M d Q} {ls1 : List (Option Value)} (hw : ∀ (j : Nat) (v : Value), ls1[j]? = some (some v) → ls[j]? = some (some v)) (k : VP X pc ls1 st h n c z) : VP X pc ls st h n c z := by
  intro lsA H locs cells slots hW hS hc hz hl
  refine k lsA H locs cells slots hW hS hc hz ⟨hl.1, hl.2.1, fun q hq => hl.2.2 q ?_⟩
  obtain ⟨j, w, h1, h2⟩ := (lvl_mem X.ad q _ 0).mp hq
  exact (lvl_mem X.ad q _ 0).mpr ⟨j, w, hw j w h1, h2⟩
theorem LV.setL {lsA : Array Slot} {nL : Nat} {ad : Nat → Nat} {i : Nat} {x : Int64} (hn : nolong ls = true) (h7 : ∀ w : Value, ls[i + 1]? ≠ some (some w))
    (h : lv_has lsA nL ((i, .long x) :: (lvl ad 0 ls).filter (fun q => !(q.1 == i) && (!(q.1 == i + 1) && !(q.1 + 1 == i && q.2.category == 2))))) : LV lsA nL ad (ls.set i (some (.long x))) := by
  refine ⟨h.1, h.2.1, fun q hq => h.2.2 q ?_⟩
  obtain ⟨j, w, h1, h2⟩ := (lvl_mem ad q _ 0).mp hq
  rw [Nat.zero_add] at h2
  subst h2
  rw [List.getElem?_set] at h1
  by_cases hij : i = j
  · subst hij
    rw [if_pos rfl] at h1
    split at h1
    · have := Option.some.inj (Option.some.inj h1)
      subst this
      exact List.mem_cons_self
    · cases h1
  · rw [if_neg hij] at h1
    refine List.mem_cons_of_mem _ (List.mem_filter.mpr ⟨(lvl_mem ad _ ls 0).mpr ⟨j, w, h1, by rw [Nat.zero_add]⟩, ?_⟩)
    have hc := List.all_eq_true.mp hn _ (List.mem_of_getElem? h1)
    simp only [beq_iff_eq] at hc
    have hji : ¬ j = i := fun e => hij e.symm
    have hj7 : ¬ j = i + 1 := fun e => h7 w (by rw [← e]; exact h1)
    simp [mv_cat, hc, hji, hj7]
theorem VP.lstore {X : PX l M d Q} {i : Nat} {x : Int64} (hd : decode M.2.1 pc = .ok (.lstore i, 2)) (hi : i + 1 < M.2.2.1) (hn : nolong ls = true) (h7 : ∀ w : Value, ls[i + 1]? ≠ some (some w)) (k : VP X (pc + 2) (ls.set i (some (.long x))) st h n c z) : VP X pc ls (.long x :: st) h n c z := by
  intro lsA H locs cells slots hW hS hc hz hl
  exact lv_lstore X.2.1.1 X.2.1.2.1 hd hl hi rfl (fun lsA1 hl1 => k lsA1 H locs cells slots hW hS hc hz (LV.setL hn h7 hl1))
/-- the script: at 4000000 -/
def Sct (X : PX l M d Q) (L : Nat) (xs : Nat → Int32) : Prop := va_X (X.ad 4000000) L xs X.s X.s.heap ∧ X.ad 4000000 < X.s.heap.size ∧ ¬ X.B ≤ X.ad 4000000
theorem VP.sld {X : PX l M d Q} {L i : Nat} {xs : Nat → Int32} (sc : Sct X L xs) (hL : L ≤ 3072) (hd : decode M.2.1 pc = .ok (.iaload, 1)) (hi : i < L) (k : VP X (pc + 1) ls (.int (xs i) :: st) h n c z) : VP X pc ls (.int (nI i) :: .ref 4000000 :: st) h n c z := by
  intro lsA H locs cells slots hW hS hc hz hl
  refine va_sld X.2.1.1 X.2.1.2.1 sc.1 sc.2.1 sc.2.2 hS (i := nI i) (vp_in_nI hi (by omega)) hd ?_
  rw [nI_clamp (by omega)]
  exact k lsA H locs cells slots hW hS hc hz hl
theorem VP.slen {X : PX l M d Q} {L : Nat} {xs : Nat → Int32} (sc : Sct X L xs) (hd : decode M.2.1 pc = .ok (.arraylength, 1)) (k : VP X (pc + 1) ls (.int (nI L) :: st) h n c z) : VP X pc ls (.ref 4000000 :: st) h n c z := by
  intro lsA H locs cells slots hW hS hc hz hl
  exact va_slen X.2.1.1 X.2.1.2.1 sc.1 sc.2.1 sc.2.2 hS hd (k lsA H locs cells slots hW hS hc hz hl)
theorem wgh_good {hh : List (Nat × Nat × Nat × Nat)} (h : Cond.codeWith M.1 M.2.1 M.2.2.1 M.2.2.2 hh ∈ WG) : GoodIn WG (WSH M hh) := by
  intro w hw
  have h1 : w ∈ WG := (List.mem_cons.mp hw).elim (fun e => by rw [e]; exact h) id
  exact ⟨h1, good_of_word (List.mem_filter.mp h1).2⟩
theorem VP.callVW {N : MT} {hh : List (Nat × Nat × Nat × Nat)} {idx k c1 z1 b ci : Nat} {fs : List Value} {Q1 : Option Value → MH → Nat → Prop} {X : PX l M (d + 1) Q} (As : List Value) (hd : decode M.2.1 pc = .ok (.invokevirtual idx, 3)) (hlk : Cond.methodLink M.1.cls idx N.1 ∈ WG) (hstt : Cond.instanceMethod N.1 ∈ WG) (hsel : Cond.selects N.1.cls N.1 N.1 ∈ WG) (hini : Cond.initialized N.1.cls ∈ WG) (hcode : Cond.codeWith N.1 N.2.1 N.2.2.1 N.2.2.2 hh ∈ WG) (hd1 : N.1.cls ≠ "java/lang/invoke/MethodHandle" ∧ N.1.cls ≠ "java/lang/invoke/VarHandle") (hd3 : (parseMethodDescriptor N.1.desc).map (fun d => d.parameters.length) = some k) (hnl : N.2.2.1 ≤ 21) (hA : As.length = k) (hst : (st.map fun v => v.category).sum ≤ 8)
    (hb0 : h b = some (.inr (ci, fs))) (hci : (classes[ci]?).map (fun q => q.1) = some N.1.cls) (hN : Met l N.1 (WSH N hh) (rmv d c1 z1) (PcV X.D X.T X.ad X.adV X.B (.ref b :: As) h n) (QcV X.D X.T X.ad X.B Q1) c1 z1 (fun q => X.B ≤ q))
    (kk : ∀ (r : Option Value) (h1 : MH) (n1 : Nat), Q1 r h1 n1 → VP X (pc + 3) ls (r.toList ++ st) h1 n1 c z) : VP X pc ls (As.reverse ++ .ref b :: st) h n (c + c1) (z + z1) := by
  obtain ⟨⟨p, e, R, s, m, args, below, meth, cd, D, T, ad, adV, B, cm, sm, Qs⟩, C, hcm, hzm, hE⟩ := X
  change Cx l M _ p R s m args meth cd D T ad adV B at C
  change cm ≤ R.cells at hcm
  change sm ≤ R.slots at hzm
  change Met l N.1 (WSH N hh) (rmv d c1 z1) (PcV D T ad adV B (.ref b :: As) h n) (QcV D T ad B Q1) c1 z1 (fun q => B ≤ q) at hN
  intro lsA H locs cells slots hW hS hc hz hl
  change _ ≤ cm at hc
  change _ ≤ sm at hz
  change Wd D T ad B _ _ H at hW
  change va_S (fun q => B ≤ q) s.heap H locs at hS
  change LV lsA M.2.2.1 ad ls at hl
  change W p l e R s m args below meth cd H locs cells slots Qs (F0 m _ lsA (List.map (mv ad) _))
  obtain ⟨hx, hb, hml, hown, hts, hK, hX, had, hB, hR1, hR2, hin, hlt⟩ := id C
  have hRR : (rmv d c1 z1).frames + 1 ≤ R.frames ∧ 8 + (N.2.2.1 + 11) + (rmv d c1 z1).locals ≤ R.locals := ⟨hR1, by show 8 + (N.2.2.1 + 11) + 40 * d ≤ _; omega⟩
  have hsg : ∀ sig, parseMethodDescriptor N.1.desc = some sig → k = sig.parameters.length := fun sig h => by
    have h3 := hd3
    rw [h] at h3
    exact (Option.some.inj h3).symm
  have hrec : ∃ cellB : Cell, H[ad b]? = some cellB ∧ cellB.vm.isStatics = false ∧ s.vm.findClass N.1.cls = some cellB.cls := by
    obtain ⟨q, h1, cell, g1, g2, g3, -⟩ := (hW.2.2 b _ hb0).2
    rw [h1] at hci
    have hq : q.1 = N.1.cls := Option.some.inj hci
    exact ⟨cell, g1, by rw [g3]; rfl, by rw [g2, ← hq]; exact (hK.1.1 ci q h1).2.1⟩
  have hpre : PreV s H N.1.cls (ad b) (PcV D T ad adV B (.ref b :: As) h n) (As.map (mv ad)) := ⟨PcV.blind, hrec, fun U hU hWm => ⟨rfl, hK.warm hWm, by rw [hU]; exact (hX.kept hS.2.1).warm hWm, by rw [hU]; exact hW⟩⟩
  have hstk : (F0 m pc lsA ((As.reverse ++ .ref b :: st).map (mv ad))).stack = (As.map (mv ad)).reverse ++ .ref (ad b) :: st.map (mv ad) := by
    show (As.reverse ++ .ref b :: st).map (mv ad) = _
    rw [List.map_append, List.map_reverse]
    rfl
  have hroom : 2 * (F0 m pc lsA ((As.reverse ++ .ref b :: st).map (mv ad))).monitorRoom + ((st.map (mv ad)).map fun v => v.category).sum ≤ 8 := lv_room (by rw [sum_cat]; exact hst)
  have hrun : va_Run p l e R s m args below meth cd H locs cells slots c1 z1 (F0 m pc lsA ((As.reverse ++ .ref b :: st).map (mv ad))) (st.map (mv ad)) (QcV D T ad B Q1 (Value.ref (ad b) :: As.map (mv ad)).toArray) (fun q => B ≤ q) :=
    vx_runVW (Ts := WG) (C := N.1.cls) (hh := hh) (bytes := N.2.1) (maxL := N.2.2.1) (ret := N.2.2.2) (n := k) ⟨hx, hb, hml, hown, hts⟩ hN ⟨⟨rfl, rfl, hRR.1, hRR.2, pay_in hts (wgh_good hcode), List.mem_cons_self⟩, hts _ hcode, hts _ hini, hd1, hsg, hts _ hlk, hts _ hstt, hts _ hsel⟩ hpre rfl (by rw [List.length_map]; exact hA) hl.1 hstk hroom hd ⟨by omega, by omega⟩
  refine m_after hrun hS (fun r h1 n1 H1 locs1 hq hW1 hS1 => ?_)
  have k1 := kk r h1 n1 hq lsA H1 locs1 (cells + c1) (slots + z1) hW1 hS1 (by show _ ≤ cm; omega) (by show _ ≤ sm; omega) hl
  change W p l e R s m args below meth cd H1 locs1 (cells + c1) (slots + z1) Qs (F0 m (pc + 3) lsA (List.map (mv ad) (r.toList ++ st))) at k1
  rw [List.map_append, show (r.toList).map (mv ad) = (r.map (mv ad)).toList by cases r <;> rfl] at k1
  exact k1
theorem VP.callSW {N : MT} {hh : List (Nat × Nat × Nat × Nat)} {idx k c1 z1 : Nat} {Q1 : Option Value → MH → Nat → Prop} {X : PX l M (d + 1) Q} (As : List Value) (hd : decode M.2.1 pc = .ok (.invokestatic idx, 3)) (hlk : Cond.methodLink M.1.cls idx N.1 ∈ WG) (hstt : Cond.static N.1 ∈ WG) (hini : Cond.initialized N.1.cls ∈ WG) (hcode : Cond.codeWith N.1 N.2.1 N.2.2.1 N.2.2.2 hh ∈ WG) (hd1 : N.1.cls ≠ "java/lang/invoke/MethodHandle" ∧ N.1.cls ≠ "java/lang/invoke/VarHandle") (hd3 : (parseMethodDescriptor N.1.desc).map (fun d => d.parameters.length) = some k) (hnl : N.2.2.1 ≤ 21) (hA : As.length = k) (hst : (st.map fun v => v.category).sum ≤ 8)
    (hN : Met l N.1 (WSH N hh) (rmv d c1 z1) (PcV X.D X.T X.ad X.adV X.B As h n) (QcV X.D X.T X.ad X.B Q1) c1 z1 (fun q => X.B ≤ q))
    (kk : ∀ (r : Option Value) (h1 : MH) (n1 : Nat), Q1 r h1 n1 → VP X (pc + 3) ls (r.toList ++ st) h1 n1 c z) : VP X pc ls (As.reverse ++ st) h n (c + c1) (z + z1) := by
  obtain ⟨⟨p, e, R, s, m, args, below, meth, cd, D, T, ad, adV, B, cm, sm, Qs⟩, C, hcm, hzm, hE⟩ := X
  change Cx l M _ p R s m args meth cd D T ad adV B at C
  change cm ≤ R.cells at hcm
  change sm ≤ R.slots at hzm
  change Met l N.1 (WSH N hh) (rmv d c1 z1) (PcV D T ad adV B As h n) (QcV D T ad B Q1) c1 z1 (fun q => B ≤ q) at hN
  intro lsA H locs cells slots hW hS hc hz hl
  change _ ≤ cm at hc
  change _ ≤ sm at hz
  change Wd D T ad B _ _ H at hW
  change va_S (fun q => B ≤ q) s.heap H locs at hS
  change LV lsA M.2.2.1 ad ls at hl
  change W p l e R s m args below meth cd H locs cells slots Qs (F0 m _ lsA (List.map (mv ad) _))
  obtain ⟨hx, hb, hml, hown, hts, hK, hX, had, hB, hR1, hR2, hin, hlt⟩ := id C
  have hRR : (rmv d c1 z1).frames + 1 ≤ R.frames ∧ 8 + (N.2.2.1 + 11) + (rmv d c1 z1).locals ≤ R.locals := ⟨hR1, by show 8 + (N.2.2.1 + 11) + 40 * d ≤ _; omega⟩
  have hsg : ∀ sig, parseMethodDescriptor N.1.desc = some sig → k = sig.parameters.length := fun sig h => by
    have h3 := hd3
    rw [h] at h3
    exact (Option.some.inj h3).symm
  have hpre : PreS s H (PcV D T ad adV B As h n) (As.map (mv ad)) := ⟨PcV.blind, fun U hU hWm => ⟨rfl, hK.warm hWm, by rw [hU]; exact (hX.kept hS.2.1).warm hWm, by rw [hU]; exact hW⟩⟩
  have hstk : (F0 m pc lsA ((As.reverse ++ st).map (mv ad))).stack = (As.map (mv ad)).reverse ++ st.map (mv ad) := by
    show (As.reverse ++ st).map (mv ad) = _
    rw [List.map_append, List.map_reverse]
  have hroom : 2 * (F0 m pc lsA ((As.reverse ++ st).map (mv ad))).monitorRoom + ((st.map (mv ad)).map fun v => v.category).sum ≤ 8 := lv_room (by rw [sum_cat]; exact hst)
  have hrun : va_Run p l e R s m args below meth cd H locs cells slots c1 z1 (F0 m pc lsA ((As.reverse ++ st).map (mv ad))) (st.map (mv ad)) (QcV D T ad B Q1 (As.map (mv ad)).toArray) (fun q => B ≤ q) :=
    vx_runSW (Ts := WG) (hh := hh) (bytes := N.2.1) (maxL := N.2.2.1) (ret := N.2.2.2) (n := k) ⟨hx, hb, hml, hown, hts⟩ hN ⟨⟨rfl, rfl, hRR.1, hRR.2, pay_in hts (wgh_good hcode), List.mem_cons_self⟩, hts _ hcode, hts _ hini, hd1, hsg, hts _ hlk, hts _ hstt⟩ hpre rfl (by rw [List.length_map]; exact hA) hl.1 hstk hroom hd ⟨by omega, by omega⟩
  refine m_after hrun hS (fun r h1 n1 H1 locs1 hq hW1 hS1 => ?_)
  have k1 := kk r h1 n1 hq lsA H1 locs1 (cells + c1) (slots + z1) hW1 hS1 (by show _ ≤ cm; omega) (by show _ ≤ sm; omega) hl
  change W p l e R s m args below meth cd H1 locs1 (cells + c1) (slots + z1) Qs (F0 m (pc + 3) lsA (List.map (mv ad) (r.toList ++ st))) at k1
  rw [List.map_append, show (r.toList).map (mv ad) = (r.map (mv ad)).toList by cases r <;> rfl] at k1
  exact k1
end LAWT
def lsL (i : Nat) : List (Option Value) := [some (.ref 4000000), some (.ref 0), some (.ref 78), some (.ref 93), some (.int (nI i)), none, none, none]
/-- one of the script's numbers -/
theorem VP.la {l : Launch} {d pc : Nat} {st : List Value} {h : MH} {n c z : Nat} {Q : Option Value → MH → Nat → Prop} {X : PX l mL_law d Q} {L i : Nat} {xs : Nat → Int32} (sc : Sct X L xs) (hL : L ≤ 3072) (hi : i + 6 ≤ L) (j : Nat) {v : Int} (hj : j < 6) (hv : Int32.ofInt v = nI j) {ls : List (Option Value)} (hl0 : ls[0]? = some (some (.ref 4000000))) (hl4 : ls[4]? = some (some (.int (nI i))))
    (d0 : decode cL_law pc = .ok (.aload_n 0, 1)) (d1 : decode cL_law (pc + 1) = .ok (.iload 4, 2)) (d3 : decode cL_law (pc + 3) = .ok (.iconst v, 1)) (d4 : decode cL_law (pc + 4) = .ok (.iadd, 1)) (d5 : decode cL_law (pc + 5) = .ok (.iaload, 1)) (k : VP X (pc + 6) ls (.int (xs (i + j)) :: st) h n c z) : VP X pc ls st h n c z := by
  refine VP.aload_n d0 hl0 ?_
  refine VP.iload d1 hl4 ?_
  refine VP.iconst d3 hv ?_
  refine VP.iaddN d4 ?_
  exact VP.sld sc hL d5 (by omega) k
/-- what holds between two calls; and what is to be shown behind a call -/
def LI (K : KK) (b : Bool) (KI : KK) (S : SS) (h : MH) : Prop := INV K b KI S ∧ ClsAt h K b KI S ∧ ModAt h K b KI S ∧ ∃ g : Nat → Int64, h 93 = some (.inl (2, 1, .inr (.inl g)))
def NX {l : Launch} (X : PX l mL_law 14 QL) (i n r : Nat) : Prop := ∀ (K : KK) (b : Bool) (KI : KK) (S : SS) (h : MH) (n1 : Nat), LI K b KI S h → n ≤ n1 → n1 ≤ n + 1 → VP X 1644 (lsL i) [] h n1 r (6 * r)
