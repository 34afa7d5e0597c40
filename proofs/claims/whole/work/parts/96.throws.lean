/-! METHODS THAT THROW OR CATCH, over the machine in one context -/
section EXC
variable {l : Launch} {M : MT} {d pc : Nat} {ls : List (Option Value)} {st : List Value} {h : MH} {n c z : Nat} {Q : Option Value → MH → Nat → Prop}
theorem En.of {p : Program} {e : Env} {R : Room} {s : State} {m : MethodId} {args : Array Value} {below : List Frame} {meth : Method} {cd : Code} {D : va_G} {T : Nat → ClassId} {ad : Nat → Nat} {B : Nat} (hx : p.tables.exec = Jvm.exec) (hb : cd.code = M.2.1) (hr : meth.sig.returnType = M.2.2.2) (hlocks : meth.locks = false) :
    En l M Q p e R s m args below meth cd D T ad B c z (MQ below (QcV D T ad B Q) args s c z (fun q => B ≤ q)) := by
  intro pc lsA r h1 n1 H locs cells slots hR hQ hW1 hS1 hc hz
  refine W.widen hc hz ?_
  have hq : ∀ t : State, t.heap = H → s.WarmedH t.vm → QcV D T ad B Q args s (.returned (r.map (mv ad))) t := fun t ht _ => ⟨⟨r, h1, n1, rfl, hQ, by rw [ht]; exact hW1⟩, hS1.F ht⟩
  have hf : ∀ q ∈ locs, (fun q => B ≤ q) q.base := hS1.2.2
  match r, hR, hq with
  | none, hR, hq => exact W.vret hx hb (hr.trans hR.2) hq hf hR.1 hlocks
  | some (.int v), hR, hq =>
    obtain ⟨h0, ty, h2, h3⟩ := hR
    exact W.zret hx hb (hr.trans h2) h3 hq hf h0 hlocks
  | some (.long v), hR, hq => exact W.lret hx hb (hr.trans hR.2) hq hf hR.1 hlocks
  | some (.ref v), hR, hq =>
    obtain ⟨h0, C0, h2⟩ := hR
    exact W.aret hx hb (hr.trans h2) (Or.inl ⟨_, rfl⟩) (Or.inr ⟨_, rfl⟩) hq hf h0 hlocks
theorem Wd.more {D : va_G} {T : Nat → ClassId} {ad : Nat → Nat} {B : Nat} {H H1 : Heap} (hw : Wd D T ad B h n H) (hz : H.size ≤ H1.size) (hlt : H1.size < B + 1000000) (ho : ∀ q : Nat, q < H.size → H1[q]? = H[q]?) : Wd D T ad B h (H1.size - B) H1 := by
  obtain ⟨h1, h2, h3⟩ := hw
  refine ⟨by omega, by omega, fun k x hk => ?_⟩
  obtain ⟨g1, g2⟩ := h3 k x hk
  exact ⟨by omega, g2.kept (ho _ g2.lt)⟩
/-- what is so where a method has thrown: the picture is h still -/
def XCd (D : va_G) (T : Nat → ClassId) (ad : Nat → Nat) (B : Nat) (h : MH) (EX : String → Prop) : String → State → State → Prop := fun E st t => EX E ∧ (t.heap.size < B + 1000000 → Wd D T ad B h (t.heap.size - B) t.heap) ∧ va_F (fun q => B ≤ q) st t
/-- the end of a method that may throw -/
def QXs (X : PX l M d Q) (h : MH) (EX : String → Prop) : State → Prop := vx_MQ X.below (QcV X.D X.T X.ad X.B Q) (XCd X.D X.T X.ad X.B h EX) X.args X.s X.cm X.sm (fun q => X.B ≤ q)
theorem Met.ofPX {EX : String → Prop} {As : List Value} {D : va_G} {T : Nat → ClassId} {ad adV : Nat → Nat} {B : Nat} (hlt : l.stackTraces = false) (had : ∀ k, k < 1000000 → ad k = B + k) (hp : plainName M.1.cls = true) (hlen : (ls0 As).length ≤ M.2.2.1)
    (hV : ∀ X : PX l M d Q, X.Qs = QXs X h EX → (∀ x ∈ X.cd.exceptionTable.toList, False) → X.meth.locks = false → VP X 0 (lsE M.2.2.1 As) [] h n c z) : vx_Met l M.1 (WS M) (rmv d c z) (PcV D T ad adV B As h n) (QcV D T ad B Q) (XCd D T ad B h EX) c z (fun q => B ≤ q) := by
  refine vx_ofW (cc := M.2.1) (maxL := M.2.2.1) (ret := M.2.2.2) hp rfl ?_
  intro p e s m args below meth cd s₁ Bd hml htb hv
  obtain ⟨rfl, hK, hX, hW⟩ := hv
  have hts := atoms_spec (ws := WS M) Bd.pre
  have hlv := lv_entry (As.map (mv ad)) (n := M.2.2.1) (by rw [ls0_len]; exact hlen)
  rw [lg_entry_eq]
  have hlocks := Bd.notSynchronized
  have hC : Cx l M d p (rmv d c z) s m (As.map (mv ad)).toArray meth cd D T ad adV B := ⟨Bd.exec, Bd.bytes, hml, findClass_of_methodNamed Bd.named, fun w hw => hts w (List.mem_cons_of_mem _ hw), hK, hX, had, by rw [hW.1]; omega, Nat.le_refl _, Nat.le_refl _, fun h => (name_of_methodNamed Bd.named Bd.method).1.trans h, hlt⟩
  have hE : En l M Q p e (rmv d c z) s m (As.map (mv ad)).toArray below meth cd D T ad B c z (vx_MQ below (QcV D T ad B Q) (XCd D T ad B h EX) (As.map (mv ad)).toArray s c z (fun q => B ≤ q)) := by
    intro pc lsA r h1 n1 H locs cells slots hR hQ hW1 hS1 hc hz
    exact vx_ret (En.of Bd.exec Bd.bytes Bd.returns hlocks pc lsA r h1 n1 H locs cells slots hR hQ hW1 hS1 hc hz)
  refine hV ⟨⟨p, e, rmv d c z, s, m, (As.map (mv ad)).toArray, below, meth, cd, D, T, ad, adV, B, c, z, _⟩, hC, Nat.le_refl _, Nat.le_refl _, hE⟩ rfl htb hlocks _ s.heap [] 0 0 hW va_S.rf (by show 0 + c ≤ c; omega) (by show 0 + z ≤ z; omega) ?_
  show lv_has _ _ _
  rw [lsE, lvl_entry]
  exact hlv
/-- a method with a table of its own, that doesn't throw -/
def WSH (M : MT) (hh : List (Nat × Nat × Nat × Nat)) : List Cond := Cond.codeWith M.1 M.2.1 M.2.2.1 M.2.2.2 hh :: WG
theorem Met.ofWH {y : MethodName} {ws ws' : List Cond} {rm : Room} {Pc : Array Value → State → Prop} {Qc : Array Value → State → Outcome → State → Prop} {mc ms : Nat} {free : Addr → Prop} {cc : ByteArray} {maxL : Nat} {ret : Option FieldType} {hh : List (Nat × Nat × Nat × Nat)}
    (hy : plainName y.cls = true) (hw : ws = Cond.codeWith y cc maxL ret hh :: ws')
    (body : ∀ p e s m args below meth c s₁, BodyLoose p l y (headSpec ws rm) cc maxL ret e s m args below meth c s₁ → c.maxLocals = maxL → Pc args s →
      W p l e (headSpec ws rm).room s m args below meth c s.heap [] 0 0 (MQ below Qc args s mc ms free) (entryFrame m args maxL)) : Met l y ws rm Pc Qc mc ms free := by
  refine MetFree.of_bodyS (code := cc) (maxLocals := maxL) (ret := ret) hy ?_ ?_
  · intro args s m h hn
    obtain ⟨m9, meth, c, hn9, h1, h2, h3, h4, -, h5, h6, -⟩ := Cond.codeWith_spec (atoms_spec (ws := ws) h _ (by rw [hw]; exact List.mem_cons_self))
    cases hn.symm.trans hn9
    exact ⟨meth, c, h1, h2, h3, h4, h5, h6⟩
  · intro p e s m args below meth c s₁ B hml hP _
    have hh0 : s₁.heap = s.heap := by rw [B.state]; rfl
    obtain ⟨t, a1, o, b1, b2, b3⟩ := body p e s m args below meth c s₁ B hml hP s₁ hh0 (Stand.of_body B)
    exact ⟨t, o, a1, b1, b2, ⟨b3.1, b3.2⟩⟩
theorem Met.ofPH {hh : List (Nat × Nat × Nat × Nat)} {As : List Value} {D : va_G} {T : Nat → ClassId} {ad adV : Nat → Nat} {B : Nat} (hlt : l.stackTraces = false) (had : ∀ k, k < 1000000 → ad k = B + k) (hp : plainName M.1.cls = true) (hlen : (ls0 As).length ≤ M.2.2.1)
    (hV : ∀ X : PX l M d Q, X.cd.exceptionTable.toList = tableOf hh → X.s.heap.size + X.cm = X.B + n + c → VP X 0 (lsE M.2.2.1 As) [] h n c z) : Met l M.1 (WSH M hh) (rmv d c z) (PcV D T ad adV B As h n) (QcV D T ad B Q) c z (fun q => B ≤ q) := by
  refine Met.ofWH (cc := M.2.1) (maxL := M.2.2.1) (ret := M.2.2.2) (hh := hh) hp rfl ?_
  intro p e s m args below meth cd s₁ Bd hml hv
  obtain ⟨rfl, hK, hX, hW⟩ := hv
  have hts := atoms_spec (ws := WSH M hh) Bd.pre
  have hlv := lv_entry (As.map (mv ad)) (n := M.2.2.1) (by rw [ls0_len]; exact hlen)
  rw [lg_entry_eq]
  have hlocks := Bd.notSynchronized
  have htb : cd.exceptionTable.toList = tableOf hh := vx_table (x := M.1) Bd (hts _ List.mem_cons_self)
  have hC : Cx l M d p (rmv d c z) s m (As.map (mv ad)).toArray meth cd D T ad adV B := ⟨Bd.exec, Bd.bytes, hml, findClass_of_methodNamed Bd.named, fun w hw => hts w (List.mem_cons_of_mem _ hw), hK, hX, had, by rw [hW.1]; omega, Nat.le_refl _, Nat.le_refl _, fun h => (name_of_methodNamed Bd.named Bd.method).1.trans h, hlt⟩
  have hE : En l M Q p e (rmv d c z) s m (As.map (mv ad)).toArray below meth cd D T ad B c z (MQ below (QcV D T ad B Q) (As.map (mv ad)).toArray s c z (fun q => B ≤ q)) := En.of Bd.exec Bd.bytes Bd.returns hlocks
  refine hV ⟨⟨p, e, rmv d c z, s, m, (As.map (mv ad)).toArray, below, meth, cd, D, T, ad, adV, B, c, z, _⟩, hC, Nat.le_refl _, Nat.le_refl _, hE⟩ htb (by show s.heap.size + c = B + n + c; rw [hW.1]) _ s.heap [] 0 0 hW va_S.rf (by show 0 + c ≤ c; omega) (by show 0 + z ≤ z; omega) ?_
  show lv_has _ _ _
  rw [lsE, lvl_entry]
  exact hlv
theorem nl_at {D : va_G} {T : Nat → ClassId} {s : State} {args : Array Value} {w : Cond} (hK : KC D T s) (hw : w ∈ NL) : w.before args s = true := by
  have h1 := hK.2.1 w hw
  exact vx_ot_at (State.WarmedH.refl s) rfl (by unfold vx_ot; rw [nl_on hw]; rfl) h1
/-- 'throw new E("text")' -/
theorem VP.throwS {X : PX l M d Q} {EX : String → Prop} {cls : String} {ik is ic j : Nat} {names : List String} (hQ : X.Qs = QXs X h EX) (htb : ∀ x ∈ X.cd.exceptionTable.toList, False) (hlocks : X.meth.locks = false) (hd6 : 6 ≤ d) (hnm : names.length = 2)
    (hcls : Bundle.fit cls = true) (hnames : ∀ n ∈ names, Bundle.fit n = true) (hk : Cond.classLink M.1.cls ik cls ∈ WG) (hini : Cond.initialized cls ∈ WG) (hj : j < 9) (hj1 : sIdx j = is) (hj2 : sOwn j = M.1.cls) (hat : ∀ w ∈ vx_atS M.1.cls ic cls names, w ∈ WG ∨ w ∈ NL)
    (hgood : ∀ w ∈ Cond.classLink M.1.cls ik cls :: Cond.initialized cls :: vx_atS M.1.cls ic cls names, vx_ot w = true)
    (d0 : decode M.2.1 pc = .ok (.new ik, 3)) (d3 : decode M.2.1 (pc + 3) = .ok (.dup, 1)) (d4 : decode M.2.1 (pc + 4) = .ok (.ldc is, 2)) (d6 : decode M.2.1 (pc + 6) = .ok (.invokespecial ic, 3)) (d9 : decode M.2.1 (pc + 9) = .ok (.athrow, 1)) (hE0 : EX cls) : VP X pc ls [] h n (c + 1) (z + 6) := by
  obtain ⟨⟨p, e, R, s, m, args, below, meth, cd, D, T, ad, adV, B, cm, sm, Qs⟩, C, hcm, hzm, hE⟩ := X
  change Cx l M _ p R s m args meth cd D T ad adV B at C
  change cm ≤ R.cells at hcm
  change sm ≤ R.slots at hzm
  change Qs = vx_MQ below (QcV D T ad B Q) (XCd D T ad B h EX) args s cm sm (fun q => B ≤ q) at hQ
  subst hQ
  intro lsA H locs cells slots hW hS hc hz hl
  change _ ≤ cm at hc
  change _ ≤ sm at hz
  change Wd D T ad B _ _ H at hW
  change va_S (fun q => B ≤ q) s.heap H locs at hS
  change LV lsA M.2.2.1 ad ls at hl
  change W p l e R s m args below meth cd H locs cells slots (vx_MQ below (QcV D T ad B Q) (XCd D T ad B h EX) args s cm sm (fun q => B ≤ q)) (F0 m _ lsA [])
  obtain ⟨hx, hb, hml, hown, hts, hK, hX, had, hB, hR1, hR2, hin, hlt⟩ := id C
  have hr := hX.2.1 j hj
  rw [hj1, hj2] at hr
  refine vx_throwS (A := fun q => B ≤ q) (names := names) hx hb hlt hown hcls hnames (hts _ hk) (hts _ hini) hr (fun w hw => (hat w hw).elim (fun q => hts _ q) (fun q => nl_at hK q)) hgood hX.2.2.2.2.1 hX.2.2.2.2.2.1 hS (hl.1.trans hml.symm) d0 d3 d4 d6 d9 (fun x hx => (htb x hx).elim) (by omega) (by show 0 + _ ≤ _; omega) (by omega) (by omega) hlocks ?_ hS.2.2 (by omega) (by omega)
  intro t ht hz1 hk1
  refine ⟨hE0, fun hlt1 => hW.more hz1 hlt1 hk1, ⟨Nat.le_trans hS.1 hz1, fun q h1 h2 => ?_⟩⟩
  rw [hk1 q (Nat.lt_of_lt_of_le h1 hS.1)]
  exact hS.2.1 q h1 h2
theorem VP.throwW {X : PX l M d Q} {EX : String → Prop} {cls : String} {ik is ic j : Nat} {names : List String} (hQ : X.Qs = QXs X h EX) (htb : ∀ x ∈ X.cd.exceptionTable.toList, False) (hlocks : X.meth.locks = false) (hd6 : 6 ≤ d) (hnm : names.length = 2)
    (hcls : Bundle.fit cls = true) (hnames : ∀ n ∈ names, Bundle.fit n = true) (hk : Cond.classLink M.1.cls ik cls ∈ WG) (hini : Cond.initialized cls ∈ WG) (hj : j < 9) (hj1 : sIdx j = is) (hj2 : sOwn j = M.1.cls) (hat : ∀ w ∈ vx_atS M.1.cls ic cls names, w ∈ WG ∨ w ∈ NL)
    (hgood : ∀ w ∈ Cond.classLink M.1.cls ik cls :: Cond.initialized cls :: vx_atS M.1.cls ic cls names, vx_ot w = true)
    (d0 : decode M.2.1 pc = .ok (.new ik, 3)) (d3 : decode M.2.1 (pc + 3) = .ok (.dup, 1)) (d4 : decode M.2.1 (pc + 4) = .ok (.ldc_w is, 3)) (d6 : decode M.2.1 (pc + 7) = .ok (.invokespecial ic, 3)) (d9 : decode M.2.1 (pc + 10) = .ok (.athrow, 1)) (hE0 : EX cls) : VP X pc ls [] h n (c + 1) (z + 6) := by
  obtain ⟨⟨p, e, R, s, m, args, below, meth, cd, D, T, ad, adV, B, cm, sm, Qs⟩, C, hcm, hzm, hE⟩ := X
  change Cx l M _ p R s m args meth cd D T ad adV B at C
  change cm ≤ R.cells at hcm
  change sm ≤ R.slots at hzm
  change Qs = vx_MQ below (QcV D T ad B Q) (XCd D T ad B h EX) args s cm sm (fun q => B ≤ q) at hQ
  subst hQ
  intro lsA H locs cells slots hW hS hc hz hl
  change _ ≤ cm at hc
  change _ ≤ sm at hz
  change Wd D T ad B _ _ H at hW
  change va_S (fun q => B ≤ q) s.heap H locs at hS
  change LV lsA M.2.2.1 ad ls at hl
  change W p l e R s m args below meth cd H locs cells slots (vx_MQ below (QcV D T ad B Q) (XCd D T ad B h EX) args s cm sm (fun q => B ≤ q)) (F0 m _ lsA [])
  obtain ⟨hx, hb, hml, hown, hts, hK, hX, had, hB, hR1, hR2, hin, hlt⟩ := id C
  have hr := hX.2.1 j hj
  rw [hj1, hj2] at hr
  refine vx_throwSW (A := fun q => B ≤ q) (names := names) hx hb hlt hown hcls hnames (hts _ hk) (hts _ hini) hr (fun w hw => (hat w hw).elim (fun q => hts _ q) (fun q => nl_at hK q)) hgood hX.2.2.2.2.1 hX.2.2.2.2.2.1 hS (hl.1.trans hml.symm) d0 d3 d4 d6 d9 (fun x hx => (htb x hx).elim) (by omega) (by show 0 + _ ≤ _; omega) (by omega) (by omega) hlocks ?_ hS.2.2 (by omega) (by omega)
  intro t ht hz1 hk1
  refine ⟨hE0, fun hlt1 => hW.more hz1 hlt1 hk1, ⟨Nat.le_trans hS.1 hz1, fun q h1 h2 => ?_⟩⟩
  rw [hk1 q (Nat.lt_of_lt_of_le h1 hS.1)]
  exact hS.2.1 q h1 h2
/-- a call of a method that may throw -/
theorem VP.callX {N : MT} {idx k c1 z1 b ci : Nat} {fs : List Value} {Q1 : Option Value → MH → Nat → Prop} {EX : String → Prop} {X : PX l M (d + 1) Q} (As : List Value) (hd : decode M.2.1 pc = .ok (.invokevirtual idx, 3)) (hk : LkV M.1.cls idx N k) (hkm : Cond.methodLink M.1.cls idx N.1 ∈ WG) (hA : As.length = k) (hst : (st.map fun v => v.category).sum ≤ 8)
    (hb0 : h b = some (.inr (ci, fs))) (hci : (classes[ci]?).map (fun q => q.1) = some N.1.cls) (hsz : X.s.heap.size + X.cm < X.B + 1000000)
    (hN : vx_Met l N.1 (WS N) (rmv d c1 z1) (PcV X.D X.T X.ad X.adV X.B (.ref b :: As) h n) (QcV X.D X.T X.ad X.B Q1) (XCd X.D X.T X.ad X.B h EX) c1 z1 (fun q => X.B ≤ q))
    (kk : ∀ (r : Option Value) (h1 : MH) (n1 : Nat), Q1 r h1 n1 → VP X (pc + 3) ls (r.toList ++ st) h1 n1 c z)
    (kx : ∀ (E : String) (ce : Cell) (q9 : Addr) (n1 : Nat) (lsA : Array Slot) (H : Heap) (locs : List Loc) (cells slots : Nat), EX E → H[q9]? = some ce → ce.vm = .none → X.s.vm.findClass E = some ce.cls → n ≤ n1 → n1 ≤ X.s.heap.size + X.cm - X.B → Wd X.D X.T X.ad X.B h n1 H → va_S (fun q => X.B ≤ q) X.s.heap H locs → cells + c ≤ X.cm → slots + z ≤ X.sm → LV lsA M.2.2.1 X.ad ls →
      vx_W X.p l X.e X.R X.s X.m X.args X.below X.meth X.cd H locs cells slots X.Qs (F0 X.m pc lsA (st.map (mv X.ad))) q9) : VP X pc ls (As.reverse ++ .ref b :: st) h n (c + c1) (z + z1) := by
  obtain ⟨⟨p, e, R, s, m, args, below, meth, cd, D, T, ad, adV, B, cm, sm, Qs⟩, C, hcm, hzm, hE⟩ := X
  change Cx l M _ p R s m args meth cd D T ad adV B at C
  change cm ≤ R.cells at hcm
  change sm ≤ R.slots at hzm
  change s.heap.size + cm < B + 1000000 at hsz
  change vx_Met l N.1 (WS N) (rmv d c1 z1) (PcV D T ad adV B (.ref b :: As) h n) (QcV D T ad B Q1) (XCd D T ad B h EX) c1 z1 (fun q => B ≤ q) at hN
  intro lsA H locs cells slots hW hS hc hz hl
  change _ ≤ cm at hc
  change _ ≤ sm at hz
  change Wd D T ad B _ _ H at hW
  change va_S (fun q => B ≤ q) s.heap H locs at hS
  change LV lsA M.2.2.1 ad ls at hl
  change W p l e R s m args below meth cd H locs cells slots Qs (F0 m _ lsA (List.map (mv ad) _))
  obtain ⟨hx, hb, hml, hown, hts, hK, hX, had, hB, hR1, hR2, hin, hlt⟩ := id C
  obtain ⟨-, ⟨hstt, hsel⟩, hini, hcode, ⟨hd1, hd2, hd3⟩, hnl, hpl⟩ := hk
  have hrec : ∃ cellB : Cell, H[ad b]? = some cellB ∧ cellB.vm.isStatics = false ∧ s.vm.findClass N.1.cls = some cellB.cls := by
    obtain ⟨q, h1, cell, g1, g2, g3, -⟩ := (hW.2.2 b _ hb0).2
    rw [h1] at hci
    have hq : q.1 = N.1.cls := Option.some.inj hci
    exact ⟨cell, g1, by rw [g3]; rfl, by rw [g2, ← hq]; exact (hK.1.1 ci q h1).2.1⟩
  have hpre : PreV s H N.1.cls (ad b) (PcV D T ad adV B (.ref b :: As) h n) (As.map (mv ad)) := ⟨PcV.blind, hrec, fun U hU hWm => ⟨rfl, hK.warm hWm, by rw [hU]; exact (hX.kept hS.2.1).warm hWm, by rw [hU]; exact hW⟩⟩
  have hstk : (F0 m pc lsA ((As.reverse ++ .ref b :: st).map (mv ad))).stack = (As.map (mv ad)).reverse ++ .ref (ad b) :: st.map (mv ad) := by
    show (As.reverse ++ .ref b :: st).map (mv ad) = _
    rw [List.map_append, List.map_reverse]
    rfl
  have hroom : 2 * (F0 m pc lsA ((As.reverse ++ .ref b :: st).map (mv ad))).monitorRoom + ((st.map (mv ad)).map fun v => v.category).sum ≤ 8 := lv_room (by rw [sum_cat]; exact hst)
  have hRR : (rmv d c1 z1).frames + 1 ≤ R.frames ∧ 8 + (N.2.2.1 + 11) + (rmv d c1 z1).locals ≤ R.locals := ⟨hR1, by show 8 + (N.2.2.1 + 11) + 40 * d ≤ _; omega⟩
  have hr : vx_Run p l e R s m args below meth cd H locs cells slots c1 z1 (F0 m pc lsA ((As.reverse ++ .ref b :: st).map (mv ad))) (st.map (mv ad)) (QcV D T ad B Q1 (Value.ref (ad b) :: As.map (mv ad)).toArray) (XCd D T ad B h EX) (fun q => B ≤ q) :=
    vx_runV (Ts := WG) ⟨hx, hb, hml, hown, hts⟩ hN ⟨callB_of k hts (wg_good hcode) rfl rfl rfl (hts _ hini) (hts _ hkm) ⟨hd1, hd2, hd3⟩ hRR, hts _ hstt, hts _ hsel⟩ hpre rfl (by rw [List.length_map]; exact hA) hl.1 hstk hroom hd ⟨by omega, by omega⟩
  intro U hU Y
  rcases hr U hU Y with ⟨v, st₀, t, U', L, h0, Y', hL, e1, e2, ⟨⟨r, h1, n1, hv, hq, hw⟩, hz1, hk1⟩, go⟩ | ⟨q, st₀, t, U', L, E, ce, h0, Y', hL, e1, e2, ⟨hex, hwm, hz1, hk1⟩, hce, hcv, hcl, go⟩
  · cases hv
    rw [h0] at hz1 hk1
    have k1 := kk r h1 n1 hq lsA U'.heap (locs ++ L) (cells + c1) (slots + z1) (by show Wd D T ad B h1 n1 U'.heap; rw [e1]; exact hw) ⟨Nat.le_trans hS.1 (by rw [e1]; exact hz1), fun q h1 h2 => by rw [e1, hk1 q (Nat.lt_of_lt_of_le h1 hS.1) h2]; exact hS.2.1 q h1 h2, fun q hq => by
      rcases List.mem_append.mp hq with h | h
      · exact hS.2.2 q h
      · exact hL q h⟩ (by show _ ≤ cm; omega) (by show _ ≤ sm; omega) hl
    change W p l e R s m args below meth cd U'.heap (locs ++ L) (cells + c1) (slots + z1) Qs (F0 m (pc + 3) lsA (List.map (mv ad) (r.toList ++ st))) at k1
    rw [List.map_append, show (r.toList).map (mv ad) = (r.map (mv ad)).toList by cases r <;> rfl] at k1
    obtain ⟨t2, a1, b1⟩ := k1 U' rfl Y'
    exact ⟨t2, go t2 a1, b1⟩
  · rw [h0] at hz1 hk1
    have hsize : U'.heap.size ≤ s.heap.size + (cells + c1) := Y'.same.2.2.1
    have hsame : U'.heap.size = t.heap.size := by rw [e1]
    have hw1 := hwm (by omega)
    have hHB := hW.1
    obtain ⟨t2, a1, b1⟩ := kx E ce q (t.heap.size - B) lsA U'.heap (locs ++ L) (cells + c1) (slots + z1) hex (by rw [e1]; exact hce) hcv hcl (by omega) (by show _ ≤ s.heap.size + cm - B; omega) (by show Wd D T ad B h _ U'.heap; rw [e1]; exact hw1) ⟨Nat.le_trans hS.1 (by rw [e1]; exact hz1), fun q h1 h2 => by rw [e1, hk1 q (Nat.lt_of_lt_of_le h1 hS.1) h2]; exact hS.2.1 q h1 h2, fun q hq => by
      rcases List.mem_append.mp hq with h | h
      · exact hS.2.2 q h
      · exact hL q h⟩ (by show _ ≤ cm; omega) (by show _ ≤ sm; omega) hl U' rfl Y'
    exact ⟨t2, go.trans a1, b1⟩
theorem LV.unset {lsA : Array Slot} {nL : Nat} {ad : Nat → Nat} {ls : List (Option Value)} {i : Nat} {v : Value} (hn : nolong ls = true)
    (h : lv_has lsA nL ((i, v) :: (lvl ad 0 ls).filter (fun q => !(q.1 == i) && !(q.1 + 1 == i && q.2.category == 2)))) : LV lsA nL ad (ls.set i none) := by
  refine ⟨h.1, h.2.1, fun q hq => h.2.2 q ?_⟩
  obtain ⟨j, w, h1, h2⟩ := (lvl_mem ad q _ 0).mp hq
  rw [Nat.zero_add] at h2
  subst h2
  rw [List.getElem?_set] at h1
  by_cases hij : i = j
  · subst hij
    rw [if_pos rfl] at h1
    split at h1
    · cases h1
    · cases h1
  · rw [if_neg hij] at h1
    refine List.mem_cons_of_mem _ (List.mem_filter.mpr ⟨(lvl_mem ad _ ls 0).mpr ⟨j, w, h1, by rw [Nat.zero_add]⟩, ?_⟩)
    have hc := List.all_eq_true.mp hn _ (List.mem_of_getElem? h1)
    simp only [beq_iff_eq] at hc
    have hji : ¬ j = i := fun e => hij e.symm
    simp [mv_cat, hc, hji]
/-- caught, and put away -/
theorem VP.catchN {X : PX l M d Q} {E nm : String} {ce : Cell} {q9 : Addr} {i : Fin 4} {lsA : Array Slot} {H : Heap} {locs : List Loc} {cells slots : Nat} (pre : List ExceptionTableEntry) (x : ExceptionTableEntry) (suf : List ExceptionTableEntry) (hsplit : X.cd.exceptionTable.toList = pre ++ x :: suf)
    (hpass : ∀ y ∈ pre, covers y pc = false ∨ (y.catchType ≠ 0 ∧ ∃ nm : String, Cond.classLink M.1.cls y.catchType nm ∈ WG ∧ va_Nc E nm X.s)) (hx : covers x pc = true) (h0 : x.catchType ≠ 0) (hlink : Cond.classLink M.1.cls x.catchType nm ∈ WG) (hcast : Cond.castable E nm ∈ NL) (hcell : H[q9]? = some ce) (hv : ce.vm = .none) (hcl : X.s.vm.findClass E = some ce.cls)
    (hd : decode M.2.1 x.handlerPc = .ok (.astore_n i, 1)) (hi : (i : Nat) < M.2.2.1) (hn : nolong ls = true) (hW : Wd X.D X.T X.ad X.B h n H) (hS : va_S (fun q => X.B ≤ q) X.s.heap H locs) (hc : cells + c ≤ X.cm) (hz : slots + z ≤ X.sm) (hl : LV lsA M.2.2.1 X.ad ls)
    (kk : VP X (x.handlerPc + 1) (ls.set (i : Nat) none) [] h n c z) : vx_W X.p l X.e X.R X.s X.m X.args X.below X.meth X.cd H locs cells slots X.Qs (F0 X.m pc lsA (st.map (mv X.ad))) q9 := by
  obtain ⟨⟨p, e, R, s, m, args, below, meth, cd, D, T, ad, adV, B, cm, sm, Qs⟩, C, hcm, hzm, hE⟩ := X
  change Cx l M _ p R s m args meth cd D T ad adV B at C
  change s.vm.findClass E = some ce.cls at hcl
  change LV lsA M.2.2.1 ad ls at hl
  change cd.exceptionTable.toList = pre ++ x :: suf at hsplit
  change ∀ y ∈ pre, covers y pc = false ∨ (y.catchType ≠ 0 ∧ ∃ nm : String, Cond.classLink M.1.cls y.catchType nm ∈ WG ∧ va_Nc E nm s) at hpass
  change vx_W p l e R s m args below meth cd H locs cells slots Qs (F0 m pc lsA (st.map (mv ad))) q9
  obtain ⟨hx1, hb, hml, hown, hts, hK, hX, had, hB, hR1, hR2, hin, hlt⟩ := id C
  refine vx_catch (name := nm) hown pre x suf hsplit (fun y hy => (hpass y hy).imp id (fun q => ⟨q.1, q.2.imp (fun a b => ⟨hts _ b.1, b.2⟩)⟩)) hx h0 (hts _ hlink) (nl_at hK hcast) hcell hv hcl ?_
  exact lv_astore_n C.1 C.2.1 hd rfl hl hi rfl (fun lsA1 hl1 => kk lsA1 H locs cells slots hW hS hc hz (LV.unset hn hl1))
/-- caught, and put away -/
theorem VP.catchA {X : PX l M d Q} {E nm : String} {ce : Cell} {q9 : Addr} {i : Nat} {lsA : Array Slot} {H : Heap} {locs : List Loc} {cells slots : Nat} (pre : List ExceptionTableEntry) (x : ExceptionTableEntry) (suf : List ExceptionTableEntry) (hsplit : X.cd.exceptionTable.toList = pre ++ x :: suf)
    (hpass : ∀ y ∈ pre, covers y pc = false ∨ (y.catchType ≠ 0 ∧ ∃ nm : String, Cond.classLink M.1.cls y.catchType nm ∈ WG ∧ va_Nc E nm X.s)) (hx : covers x pc = true) (h0 : x.catchType ≠ 0) (hlink : Cond.classLink M.1.cls x.catchType nm ∈ WG) (hcast : Cond.castable E nm ∈ NL) (hcell : H[q9]? = some ce) (hv : ce.vm = .none) (hcl : X.s.vm.findClass E = some ce.cls)
    (hd : decode M.2.1 x.handlerPc = .ok (.astore i, 2)) (hi : (i : Nat) < M.2.2.1) (hn : nolong ls = true) (hW : Wd X.D X.T X.ad X.B h n H) (hS : va_S (fun q => X.B ≤ q) X.s.heap H locs) (hc : cells + c ≤ X.cm) (hz : slots + z ≤ X.sm) (hl : LV lsA M.2.2.1 X.ad ls)
    (kk : VP X (x.handlerPc + 2) (ls.set (i : Nat) none) [] h n c z) : vx_W X.p l X.e X.R X.s X.m X.args X.below X.meth X.cd H locs cells slots X.Qs (F0 X.m pc lsA (st.map (mv X.ad))) q9 := by
  obtain ⟨⟨p, e, R, s, m, args, below, meth, cd, D, T, ad, adV, B, cm, sm, Qs⟩, C, hcm, hzm, hE⟩ := X
  change Cx l M _ p R s m args meth cd D T ad adV B at C
  change s.vm.findClass E = some ce.cls at hcl
  change LV lsA M.2.2.1 ad ls at hl
  change cd.exceptionTable.toList = pre ++ x :: suf at hsplit
  change ∀ y ∈ pre, covers y pc = false ∨ (y.catchType ≠ 0 ∧ ∃ nm : String, Cond.classLink M.1.cls y.catchType nm ∈ WG ∧ va_Nc E nm s) at hpass
  change vx_W p l e R s m args below meth cd H locs cells slots Qs (F0 m pc lsA (st.map (mv ad))) q9
  obtain ⟨hx1, hb, hml, hown, hts, hK, hX, had, hB, hR1, hR2, hin, hlt⟩ := id C
  refine vx_catch (name := nm) hown pre x suf hsplit (fun y hy => (hpass y hy).imp id (fun q => ⟨q.1, q.2.imp (fun a b => ⟨hts _ b.1, b.2⟩)⟩)) hx h0 (hts _ hlink) (nl_at hK hcast) hcell hv hcl ?_
  exact lv_astore C.1 C.2.1 hd hl hi rfl (fun lsA1 hl1 => kk lsA1 H locs cells slots hW hS hc hz (LV.unset hn hl1))
end EXC
