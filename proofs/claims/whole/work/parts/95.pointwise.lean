/-! THE SAME MACHINE IN ONE CONTEXT: V = VP X for all X. The rules are those of 05 to 08, word for word. Here a method may also throw (its Qs says so). -/
abbrev PXt : Type := Program × Env × Room × State × MethodId × Array Value × List Frame × Method × Code × va_G × (Nat → ClassId) × (Nat → Nat) × (Nat → Nat) × Nat × Nat × Nat × (State → Prop)
abbrev pxt_p (x : PXt) : Program := x.1
abbrev pxt_e (x : PXt) : Env := x.2.1
abbrev pxt_R (x : PXt) : Room := x.2.2.1
abbrev pxt_s (x : PXt) : State := x.2.2.2.1
abbrev pxt_m (x : PXt) : MethodId := x.2.2.2.2.1
abbrev pxt_args (x : PXt) : Array Value := x.2.2.2.2.2.1
abbrev pxt_below (x : PXt) : List Frame := x.2.2.2.2.2.2.1
abbrev pxt_meth (x : PXt) : Method := x.2.2.2.2.2.2.2.1
abbrev pxt_cd (x : PXt) : Code := x.2.2.2.2.2.2.2.2.1
abbrev pxt_D (x : PXt) : va_G := x.2.2.2.2.2.2.2.2.2.1
abbrev pxt_T (x : PXt) : (Nat → ClassId) := x.2.2.2.2.2.2.2.2.2.2.1
abbrev pxt_ad (x : PXt) : (Nat → Nat) := x.2.2.2.2.2.2.2.2.2.2.2.1
abbrev pxt_adV (x : PXt) : (Nat → Nat) := x.2.2.2.2.2.2.2.2.2.2.2.2.1
abbrev pxt_B (x : PXt) : Nat := x.2.2.2.2.2.2.2.2.2.2.2.2.2.1
abbrev pxt_cm (x : PXt) : Nat := x.2.2.2.2.2.2.2.2.2.2.2.2.2.2.1
abbrev pxt_sm (x : PXt) : Nat := x.2.2.2.2.2.2.2.2.2.2.2.2.2.2.2.1
abbrev pxt_Qs (x : PXt) : (State → Prop) := x.2.2.2.2.2.2.2.2.2.2.2.2.2.2.2.2
def PXok (l : Launch) (M : MT) (d : Nat) (Q : Option Value → MH → Nat → Prop) (x : PXt) : Prop := Cx l M d (pxt_p x) (pxt_R x) (pxt_s x) (pxt_m x) (pxt_args x) (pxt_meth x) (pxt_cd x) (pxt_D x) (pxt_T x) (pxt_ad x) (pxt_adV x) (pxt_B x) ∧ pxt_cm x ≤ (pxt_R x).cells ∧ pxt_sm x ≤ (pxt_R x).slots ∧ En l M Q (pxt_p x) (pxt_e x) (pxt_R x) (pxt_s x) (pxt_m x) (pxt_args x) (pxt_below x) (pxt_meth x) (pxt_cd x) (pxt_D x) (pxt_T x) (pxt_ad x) (pxt_B x) (pxt_cm x) (pxt_sm x) (pxt_Qs x)
def PX (l : Launch) (M : MT) (d : Nat) (Q : Option Value → MH → Nat → Prop) : Type := { x : PXt // PXok l M d Q x }
section PXF
variable {l : Launch} {M : MT} {d : Nat} {Q : Option Value → MH → Nat → Prop}
abbrev PX.p (X : PX l M d Q) : Program := pxt_p X.1
abbrev PX.e (X : PX l M d Q) : Env := pxt_e X.1
abbrev PX.R (X : PX l M d Q) : Room := pxt_R X.1
abbrev PX.s (X : PX l M d Q) : State := pxt_s X.1
abbrev PX.m (X : PX l M d Q) : MethodId := pxt_m X.1
abbrev PX.args (X : PX l M d Q) : Array Value := pxt_args X.1
abbrev PX.below (X : PX l M d Q) : List Frame := pxt_below X.1
abbrev PX.meth (X : PX l M d Q) : Method := pxt_meth X.1
abbrev PX.cd (X : PX l M d Q) : Code := pxt_cd X.1
abbrev PX.D (X : PX l M d Q) : va_G := pxt_D X.1
abbrev PX.T (X : PX l M d Q) : (Nat → ClassId) := pxt_T X.1
abbrev PX.ad (X : PX l M d Q) : (Nat → Nat) := pxt_ad X.1
abbrev PX.adV (X : PX l M d Q) : (Nat → Nat) := pxt_adV X.1
abbrev PX.B (X : PX l M d Q) : Nat := pxt_B X.1
abbrev PX.cm (X : PX l M d Q) : Nat := pxt_cm X.1
abbrev PX.sm (X : PX l M d Q) : Nat := pxt_sm X.1
abbrev PX.Qs (X : PX l M d Q) : (State → Prop) := pxt_Qs X.1
end PXF
def VP {l : Launch} {M : MT} {d : Nat} {Q : Option Value → MH → Nat → Prop} (X : PX l M d Q) (pc : Nat) (ls : List (Option Value)) (st : List Value) (h : MH) (n c z : Nat) : Prop :=
  ∀ (lsA : Array Slot) (H : Heap) (locs : List Loc) (cells slots : Nat), Wd X.D X.T X.ad X.B h n H → va_S (fun q => X.B ≤ q) X.s.heap H locs → cells + c ≤ X.cm → slots + z ≤ X.sm → LV lsA M.2.2.1 X.ad ls →
    W X.p l X.e X.R X.s X.m X.args X.below X.meth X.cd H locs cells slots X.Qs (F0 X.m pc lsA (st.map (mv X.ad)))
theorem V.toP {l : Launch} {M : MT} {d pc n c z : Nat} {Q : Option Value → MH → Nat → Prop} {ls : List (Option Value)} {st : List Value} {h : MH} (k : V l M d pc ls st h n c z Q) (X : PX l M d Q) : VP X pc ls st h n c z := by
  obtain ⟨⟨p, e, R, s, m, args, below, meth, cd, D, T, ad, adV, B, cm, sm, Qs⟩, C, hcm, hzm, hE⟩ := X
  intro lsA H locs cells slots hW hS hc hz hl
  exact k p e R s m args below meth cd D T ad adV B lsA H locs cells slots cm sm Qs C hW hS hc hz hcm hzm hl hE
theorem V.ofP {l : Launch} {M : MT} {d pc n c z : Nat} {Q : Option Value → MH → Nat → Prop} {ls : List (Option Value)} {st : List Value} {h : MH} (k : ∀ X : PX l M d Q, VP X pc ls st h n c z) : V l M d pc ls st h n c z Q := by
  intro p e R s m args below meth cd D T ad adV B lsA H locs cells slots cm sm Qs C hW hS hc hz hcm hzm hl hE
  exact k ⟨⟨p, e, R, s, m, args, below, meth, cd, D, T, ad, adV, B, cm, sm, Qs⟩, C, hcm, hzm, hE⟩ lsA H locs cells slots hW hS hc hz hl
section PR
variable {l : Launch} {M : MT} {d pc : Nat} {ls : List (Option Value)} {st : List Value} {h : MH} {n c z : Nat} {Q : Option Value → MH → Nat → Prop}
theorem VP.iconst {X : PX l M d Q} {i : Int} {v : Int32} (hd : decode M.2.1 pc = .ok (.iconst i, 1)) (hv : Int32.ofInt i = v) (k : VP X (pc + 1) ls (.int v :: st) h n c z) : VP X pc ls st h n c z := by
  obtain ⟨⟨p, e, R, s, m, args, below, meth, cd, D, T, ad, adV, B, cm, sm, Qs⟩, C, hcm, hzm, hE⟩ := X
  change Cx l M _ p R s m args meth cd D T ad adV B at C
  change cm ≤ R.cells at hcm
  change sm ≤ R.slots at hzm
  change En l M Q p e R s m args below meth cd D T ad B cm sm Qs at hE
  intro lsA H locs cells slots hW hS hc hz hl
  change _ ≤ cm at hc
  change _ ≤ sm at hz
  change Wd D T ad B _ _ H at hW
  change va_S (fun q => B ≤ q) s.heap H locs at hS
  change LV lsA M.2.2.1 ad ls at hl
  change W p l e R s m args below meth cd H locs cells slots Qs (F0 m _ lsA (List.map (mv ad) _))
  exact lv_iconst C.1 C.2.1 hd hv (k lsA H locs cells slots hW hS hc hz hl)
theorem VP.bipush {X : PX l M d Q} {i : Int} {v : Int32} (hd : decode M.2.1 pc = .ok (.bipush i, 2)) (hv : (Int8.ofInt i).toInt32 = v) (k : VP X (pc + 2) ls (.int v :: st) h n c z) : VP X pc ls st h n c z := by
  obtain ⟨⟨p, e, R, s, m, args, below, meth, cd, D, T, ad, adV, B, cm, sm, Qs⟩, C, hcm, hzm, hE⟩ := X
  change Cx l M _ p R s m args meth cd D T ad adV B at C
  change cm ≤ R.cells at hcm
  change sm ≤ R.slots at hzm
  change En l M Q p e R s m args below meth cd D T ad B cm sm Qs at hE
  intro lsA H locs cells slots hW hS hc hz hl
  change _ ≤ cm at hc
  change _ ≤ sm at hz
  change Wd D T ad B _ _ H at hW
  change va_S (fun q => B ≤ q) s.heap H locs at hS
  change LV lsA M.2.2.1 ad ls at hl
  change W p l e R s m args below meth cd H locs cells slots Qs (F0 m _ lsA (List.map (mv ad) _))
  exact lv_bipush C.1 C.2.1 hd hv (k lsA H locs cells slots hW hS hc hz hl)
theorem VP.sipush {X : PX l M d Q} {i : Int} {v : Int32} (hd : decode M.2.1 pc = .ok (.sipush i, 3)) (hv : (Int16.ofInt i).toInt32 = v) (k : VP X (pc + 3) ls (.int v :: st) h n c z) : VP X pc ls st h n c z := by
  obtain ⟨⟨p, e, R, s, m, args, below, meth, cd, D, T, ad, adV, B, cm, sm, Qs⟩, C, hcm, hzm, hE⟩ := X
  change Cx l M _ p R s m args meth cd D T ad adV B at C
  change cm ≤ R.cells at hcm
  change sm ≤ R.slots at hzm
  change En l M Q p e R s m args below meth cd D T ad B cm sm Qs at hE
  intro lsA H locs cells slots hW hS hc hz hl
  change _ ≤ cm at hc
  change _ ≤ sm at hz
  change Wd D T ad B _ _ H at hW
  change va_S (fun q => B ≤ q) s.heap H locs at hS
  change LV lsA M.2.2.1 ad ls at hl
  change W p l e R s m args below meth cd H locs cells slots Qs (F0 m _ lsA (List.map (mv ad) _))
  exact lv_sipush C.1 C.2.1 hd hv (k lsA H locs cells slots hW hS hc hz hl)
theorem VP.lconst {X : PX l M d Q} {i : Fin 2} {v : Int64} (hd : decode M.2.1 pc = .ok (.lconst i, 1)) (hv : Int64.ofNat (i : Nat) = v) (k : VP X (pc + 1) ls (.long v :: st) h n c z) : VP X pc ls st h n c z := by
  obtain ⟨⟨p, e, R, s, m, args, below, meth, cd, D, T, ad, adV, B, cm, sm, Qs⟩, C, hcm, hzm, hE⟩ := X
  change Cx l M _ p R s m args meth cd D T ad adV B at C
  change cm ≤ R.cells at hcm
  change sm ≤ R.slots at hzm
  change En l M Q p e R s m args below meth cd D T ad B cm sm Qs at hE
  intro lsA H locs cells slots hW hS hc hz hl
  change _ ≤ cm at hc
  change _ ≤ sm at hz
  change Wd D T ad B _ _ H at hW
  change va_S (fun q => B ≤ q) s.heap H locs at hS
  change LV lsA M.2.2.1 ad ls at hl
  change W p l e R s m args below meth cd H locs cells slots Qs (F0 m _ lsA (List.map (mv ad) _))
  exact lv_lconst C.1 C.2.1 hd hv (k lsA H locs cells slots hW hS hc hz hl)
theorem VP.ldc {X : PX l M d Q} {i : Nat} {v : Int32} (hd : decode M.2.1 pc = .ok (.ldc i, 2)) (hv : Cond.constant M.1.cls i v ∈ WG) (k : VP X (pc + 2) ls (.int v :: st) h n c z) : VP X pc ls st h n c z := by
  obtain ⟨⟨p, e, R, s, m, args, below, meth, cd, D, T, ad, adV, B, cm, sm, Qs⟩, C, hcm, hzm, hE⟩ := X
  change Cx l M _ p R s m args meth cd D T ad adV B at C
  change cm ≤ R.cells at hcm
  change sm ≤ R.slots at hzm
  change En l M Q p e R s m args below meth cd D T ad B cm sm Qs at hE
  intro lsA H locs cells slots hW hS hc hz hl
  change _ ≤ cm at hc
  change _ ≤ sm at hz
  change Wd D T ad B _ _ H at hW
  change va_S (fun q => B ≤ q) s.heap H locs at hS
  change LV lsA M.2.2.1 ad ls at hl
  change W p l e R s m args below meth cd H locs cells slots Qs (F0 m _ lsA (List.map (mv ad) _))
  exact lv_ldc C.1 C.2.1 C.2.2.2.1 (C.2.2.2.2.1 _ hv) hd (k lsA H locs cells slots hW hS hc hz hl)
theorem VP.ldcw {X : PX l M d Q} {i : Nat} {v : Int32} (hd : decode M.2.1 pc = .ok (.ldc_w i, 3)) (hv : Cond.constant M.1.cls i v ∈ WG) (k : VP X (pc + 3) ls (.int v :: st) h n c z) : VP X pc ls st h n c z := by
  obtain ⟨⟨p, e, R, s, m, args, below, meth, cd, D, T, ad, adV, B, cm, sm, Qs⟩, C, hcm, hzm, hE⟩ := X
  change Cx l M _ p R s m args meth cd D T ad adV B at C
  change cm ≤ R.cells at hcm
  change sm ≤ R.slots at hzm
  change En l M Q p e R s m args below meth cd D T ad B cm sm Qs at hE
  intro lsA H locs cells slots hW hS hc hz hl
  change _ ≤ cm at hc
  change _ ≤ sm at hz
  change Wd D T ad B _ _ H at hW
  change va_S (fun q => B ≤ q) s.heap H locs at hS
  change LV lsA M.2.2.1 ad ls at hl
  change W p l e R s m args below meth cd H locs cells slots Qs (F0 m _ lsA (List.map (mv ad) _))
  exact lv_ldcw C.1 C.2.1 C.2.2.2.1 (C.2.2.2.2.1 _ hv) hd (k lsA H locs cells slots hW hS hc hz hl)
theorem VP.ldc2 {X : PX l M d Q} {i : Nat} {v : Int64} (hd : decode M.2.1 pc = .ok (.ldc2_w i, 3)) (hv : Cond.constantLong M.1.cls i v ∈ WG) (k : VP X (pc + 3) ls (.long v :: st) h n c z) : VP X pc ls st h n c z := by
  obtain ⟨⟨p, e, R, s, m, args, below, meth, cd, D, T, ad, adV, B, cm, sm, Qs⟩, C, hcm, hzm, hE⟩ := X
  change Cx l M _ p R s m args meth cd D T ad adV B at C
  change cm ≤ R.cells at hcm
  change sm ≤ R.slots at hzm
  change En l M Q p e R s m args below meth cd D T ad B cm sm Qs at hE
  intro lsA H locs cells slots hW hS hc hz hl
  change _ ≤ cm at hc
  change _ ≤ sm at hz
  change Wd D T ad B _ _ H at hW
  change va_S (fun q => B ≤ q) s.heap H locs at hS
  change LV lsA M.2.2.1 ad ls at hl
  change W p l e R s m args below meth cd H locs cells slots Qs (F0 m _ lsA (List.map (mv ad) _))
  exact lv_ldc2 C.1 C.2.1 C.2.2.2.1 (C.2.2.2.2.1 _ hv) hd (k lsA H locs cells slots hW hS hc hz hl)
theorem VP.iload_n {X : PX l M d Q} {i : Fin 4} {x : Int32} (hd : decode M.2.1 pc = .ok (.iload_n i, 1)) (hv : ls[(i : Nat)]? = some (some (.int x))) (k : VP X (pc + 1) ls (.int x :: st) h n c z) : VP X pc ls st h n c z := by
  obtain ⟨⟨p, e, R, s, m, args, below, meth, cd, D, T, ad, adV, B, cm, sm, Qs⟩, C, hcm, hzm, hE⟩ := X
  change Cx l M _ p R s m args meth cd D T ad adV B at C
  change cm ≤ R.cells at hcm
  change sm ≤ R.slots at hzm
  change En l M Q p e R s m args below meth cd D T ad B cm sm Qs at hE
  intro lsA H locs cells slots hW hS hc hz hl
  change _ ≤ cm at hc
  change _ ≤ sm at hz
  change Wd D T ad B _ _ H at hW
  change va_S (fun q => B ≤ q) s.heap H locs at hS
  change LV lsA M.2.2.1 ad ls at hl
  change W p l e R s m args below meth cd H locs cells slots Qs (F0 m _ lsA (List.map (mv ad) _))
  exact lv_iload_n C.1 C.2.1 hd rfl (hl.at hv) (k lsA H locs cells slots hW hS hc hz hl)
theorem VP.iload {X : PX l M d Q} {i : Nat} {x : Int32} (hd : decode M.2.1 pc = .ok (.iload i, 2)) (hv : ls[i]? = some (some (.int x))) (k : VP X (pc + 2) ls (.int x :: st) h n c z) : VP X pc ls st h n c z := by
  obtain ⟨⟨p, e, R, s, m, args, below, meth, cd, D, T, ad, adV, B, cm, sm, Qs⟩, C, hcm, hzm, hE⟩ := X
  change Cx l M _ p R s m args meth cd D T ad adV B at C
  change cm ≤ R.cells at hcm
  change sm ≤ R.slots at hzm
  change En l M Q p e R s m args below meth cd D T ad B cm sm Qs at hE
  intro lsA H locs cells slots hW hS hc hz hl
  change _ ≤ cm at hc
  change _ ≤ sm at hz
  change Wd D T ad B _ _ H at hW
  change va_S (fun q => B ≤ q) s.heap H locs at hS
  change LV lsA M.2.2.1 ad ls at hl
  change W p l e R s m args below meth cd H locs cells slots Qs (F0 m _ lsA (List.map (mv ad) _))
  exact lv_iload C.1 C.2.1 hd (hl.at hv) (k lsA H locs cells slots hW hS hc hz hl)
theorem VP.lload_n {X : PX l M d Q} {i : Fin 4} {x : Int64} (hd : decode M.2.1 pc = .ok (.lload_n i, 1)) (hv : ls[(i : Nat)]? = some (some (.long x))) (k : VP X (pc + 1) ls (.long x :: st) h n c z) : VP X pc ls st h n c z := by
  obtain ⟨⟨p, e, R, s, m, args, below, meth, cd, D, T, ad, adV, B, cm, sm, Qs⟩, C, hcm, hzm, hE⟩ := X
  change Cx l M _ p R s m args meth cd D T ad adV B at C
  change cm ≤ R.cells at hcm
  change sm ≤ R.slots at hzm
  change En l M Q p e R s m args below meth cd D T ad B cm sm Qs at hE
  intro lsA H locs cells slots hW hS hc hz hl
  change _ ≤ cm at hc
  change _ ≤ sm at hz
  change Wd D T ad B _ _ H at hW
  change va_S (fun q => B ≤ q) s.heap H locs at hS
  change LV lsA M.2.2.1 ad ls at hl
  change W p l e R s m args below meth cd H locs cells slots Qs (F0 m _ lsA (List.map (mv ad) _))
  exact lv_lload_n C.1 C.2.1 hd rfl (hl.at hv) (k lsA H locs cells slots hW hS hc hz hl)
theorem VP.lload {X : PX l M d Q} {i : Nat} {x : Int64} (hd : decode M.2.1 pc = .ok (.lload i, 2)) (hv : ls[i]? = some (some (.long x))) (k : VP X (pc + 2) ls (.long x :: st) h n c z) : VP X pc ls st h n c z := by
  obtain ⟨⟨p, e, R, s, m, args, below, meth, cd, D, T, ad, adV, B, cm, sm, Qs⟩, C, hcm, hzm, hE⟩ := X
  change Cx l M _ p R s m args meth cd D T ad adV B at C
  change cm ≤ R.cells at hcm
  change sm ≤ R.slots at hzm
  change En l M Q p e R s m args below meth cd D T ad B cm sm Qs at hE
  intro lsA H locs cells slots hW hS hc hz hl
  change _ ≤ cm at hc
  change _ ≤ sm at hz
  change Wd D T ad B _ _ H at hW
  change va_S (fun q => B ≤ q) s.heap H locs at hS
  change LV lsA M.2.2.1 ad ls at hl
  change W p l e R s m args below meth cd H locs cells slots Qs (F0 m _ lsA (List.map (mv ad) _))
  exact lv_lload C.1 C.2.1 hd (hl.at hv) (k lsA H locs cells slots hW hS hc hz hl)
theorem VP.aload_n {X : PX l M d Q} {i : Fin 4} {x : Nat} (hd : decode M.2.1 pc = .ok (.aload_n i, 1)) (hv : ls[(i : Nat)]? = some (some (.ref x))) (k : VP X (pc + 1) ls (.ref x :: st) h n c z) : VP X pc ls st h n c z := by
  obtain ⟨⟨p, e, R, s, m, args, below, meth, cd, D, T, ad, adV, B, cm, sm, Qs⟩, C, hcm, hzm, hE⟩ := X
  change Cx l M _ p R s m args meth cd D T ad adV B at C
  change cm ≤ R.cells at hcm
  change sm ≤ R.slots at hzm
  change En l M Q p e R s m args below meth cd D T ad B cm sm Qs at hE
  intro lsA H locs cells slots hW hS hc hz hl
  change _ ≤ cm at hc
  change _ ≤ sm at hz
  change Wd D T ad B _ _ H at hW
  change va_S (fun q => B ≤ q) s.heap H locs at hS
  change LV lsA M.2.2.1 ad ls at hl
  change W p l e R s m args below meth cd H locs cells slots Qs (F0 m _ lsA (List.map (mv ad) _))
  exact lv_aload_n C.1 C.2.1 hd rfl (hl.at hv) (k lsA H locs cells slots hW hS hc hz hl)
theorem VP.aload {X : PX l M d Q} {i : Nat} {x : Nat} (hd : decode M.2.1 pc = .ok (.aload i, 2)) (hv : ls[i]? = some (some (.ref x))) (k : VP X (pc + 2) ls (.ref x :: st) h n c z) : VP X pc ls st h n c z := by
  obtain ⟨⟨p, e, R, s, m, args, below, meth, cd, D, T, ad, adV, B, cm, sm, Qs⟩, C, hcm, hzm, hE⟩ := X
  change Cx l M _ p R s m args meth cd D T ad adV B at C
  change cm ≤ R.cells at hcm
  change sm ≤ R.slots at hzm
  change En l M Q p e R s m args below meth cd D T ad B cm sm Qs at hE
  intro lsA H locs cells slots hW hS hc hz hl
  change _ ≤ cm at hc
  change _ ≤ sm at hz
  change Wd D T ad B _ _ H at hW
  change va_S (fun q => B ≤ q) s.heap H locs at hS
  change LV lsA M.2.2.1 ad ls at hl
  change W p l e R s m args below meth cd H locs cells slots Qs (F0 m _ lsA (List.map (mv ad) _))
  exact lv_aload C.1 C.2.1 hd (hl.at hv) (k lsA H locs cells slots hW hS hc hz hl)
theorem VP.istore_n {X : PX l M d Q} {i : Fin 4} {x : Int32} (hd : decode M.2.1 pc = .ok (.istore_n i, 1)) (hi : (i : Nat) < M.2.2.1) (hn : nolong ls = true) (k : VP X (pc + 1) (ls.set (i : Nat) (some (.int x))) st h n c z) : VP X pc ls (.int x :: st) h n c z := by
  obtain ⟨⟨p, e, R, s, m, args, below, meth, cd, D, T, ad, adV, B, cm, sm, Qs⟩, C, hcm, hzm, hE⟩ := X
  change Cx l M _ p R s m args meth cd D T ad adV B at C
  change cm ≤ R.cells at hcm
  change sm ≤ R.slots at hzm
  change En l M Q p e R s m args below meth cd D T ad B cm sm Qs at hE
  intro lsA H locs cells slots hW hS hc hz hl
  change _ ≤ cm at hc
  change _ ≤ sm at hz
  change Wd D T ad B _ _ H at hW
  change va_S (fun q => B ≤ q) s.heap H locs at hS
  change LV lsA M.2.2.1 ad ls at hl
  change W p l e R s m args below meth cd H locs cells slots Qs (F0 m _ lsA (List.map (mv ad) _))
  exact lv_istore_n C.1 C.2.1 hd rfl hl hi rfl (fun lsA1 hl1 => (k lsA1 H locs cells slots hW hS hc hz (LV.set (v := .int x) hn hl1)))
theorem VP.istore {X : PX l M d Q} {i : Nat} {x : Int32} (hd : decode M.2.1 pc = .ok (.istore i, 2)) (hi : i < M.2.2.1) (hn : nolong ls = true) (k : VP X (pc + 2) (ls.set i (some (.int x))) st h n c z) : VP X pc ls (.int x :: st) h n c z := by
  obtain ⟨⟨p, e, R, s, m, args, below, meth, cd, D, T, ad, adV, B, cm, sm, Qs⟩, C, hcm, hzm, hE⟩ := X
  change Cx l M _ p R s m args meth cd D T ad adV B at C
  change cm ≤ R.cells at hcm
  change sm ≤ R.slots at hzm
  change En l M Q p e R s m args below meth cd D T ad B cm sm Qs at hE
  intro lsA H locs cells slots hW hS hc hz hl
  change _ ≤ cm at hc
  change _ ≤ sm at hz
  change Wd D T ad B _ _ H at hW
  change va_S (fun q => B ≤ q) s.heap H locs at hS
  change LV lsA M.2.2.1 ad ls at hl
  change W p l e R s m args below meth cd H locs cells slots Qs (F0 m _ lsA (List.map (mv ad) _))
  exact lv_istore C.1 C.2.1 hd hl hi rfl (fun lsA1 hl1 => (k lsA1 H locs cells slots hW hS hc hz (LV.set (v := .int x) hn hl1)))
theorem VP.astore_n {X : PX l M d Q} {i : Fin 4} {x : Nat} (hd : decode M.2.1 pc = .ok (.astore_n i, 1)) (hi : (i : Nat) < M.2.2.1) (hn : nolong ls = true) (k : VP X (pc + 1) (ls.set (i : Nat) (some (.ref x))) st h n c z) : VP X pc ls (.ref x :: st) h n c z := by
  obtain ⟨⟨p, e, R, s, m, args, below, meth, cd, D, T, ad, adV, B, cm, sm, Qs⟩, C, hcm, hzm, hE⟩ := X
  change Cx l M _ p R s m args meth cd D T ad adV B at C
  change cm ≤ R.cells at hcm
  change sm ≤ R.slots at hzm
  change En l M Q p e R s m args below meth cd D T ad B cm sm Qs at hE
  intro lsA H locs cells slots hW hS hc hz hl
  change _ ≤ cm at hc
  change _ ≤ sm at hz
  change Wd D T ad B _ _ H at hW
  change va_S (fun q => B ≤ q) s.heap H locs at hS
  change LV lsA M.2.2.1 ad ls at hl
  change W p l e R s m args below meth cd H locs cells slots Qs (F0 m _ lsA (List.map (mv ad) _))
  exact lv_astore_n C.1 C.2.1 hd rfl hl hi rfl (fun lsA1 hl1 => (k lsA1 H locs cells slots hW hS hc hz (LV.set (v := .ref x) hn hl1)))
theorem VP.astore {X : PX l M d Q} {i : Nat} {x : Nat} (hd : decode M.2.1 pc = .ok (.astore i, 2)) (hi : i < M.2.2.1) (hn : nolong ls = true) (k : VP X (pc + 2) (ls.set i (some (.ref x))) st h n c z) : VP X pc ls (.ref x :: st) h n c z := by
  obtain ⟨⟨p, e, R, s, m, args, below, meth, cd, D, T, ad, adV, B, cm, sm, Qs⟩, C, hcm, hzm, hE⟩ := X
  change Cx l M _ p R s m args meth cd D T ad adV B at C
  change cm ≤ R.cells at hcm
  change sm ≤ R.slots at hzm
  change En l M Q p e R s m args below meth cd D T ad B cm sm Qs at hE
  intro lsA H locs cells slots hW hS hc hz hl
  change _ ≤ cm at hc
  change _ ≤ sm at hz
  change Wd D T ad B _ _ H at hW
  change va_S (fun q => B ≤ q) s.heap H locs at hS
  change LV lsA M.2.2.1 ad ls at hl
  change W p l e R s m args below meth cd H locs cells slots Qs (F0 m _ lsA (List.map (mv ad) _))
  exact lv_astore C.1 C.2.1 hd hl hi rfl (fun lsA1 hl1 => (k lsA1 H locs cells slots hW hS hc hz (LV.set (v := .ref x) hn hl1)))
theorem VP.iinc {X : PX l M d Q} {i : Nat} {b : Int} {x v : Int32} (hd : decode M.2.1 pc = .ok (.iinc i b, 3)) (hx : ls[i]? = some (some (.int x))) (hv : x + Int32.ofInt b = v) (hi : i < M.2.2.1) (hn : nolong ls = true) (k : VP X (pc + 3) (ls.set i (some (.int v))) st h n c z) : VP X pc ls st h n c z := by
  obtain ⟨⟨p, e, R, s, m, args, below, meth, cd, D, T, ad, adV, B, cm, sm, Qs⟩, C, hcm, hzm, hE⟩ := X
  change Cx l M _ p R s m args meth cd D T ad adV B at C
  change cm ≤ R.cells at hcm
  change sm ≤ R.slots at hzm
  change En l M Q p e R s m args below meth cd D T ad B cm sm Qs at hE
  intro lsA H locs cells slots hW hS hc hz hl
  change _ ≤ cm at hc
  change _ ≤ sm at hz
  change Wd D T ad B _ _ H at hW
  change va_S (fun q => B ≤ q) s.heap H locs at hS
  change LV lsA M.2.2.1 ad ls at hl
  change W p l e R s m args below meth cd H locs cells slots Qs (F0 m _ lsA (List.map (mv ad) _))
  obtain ⟨j, hj⟩ := List.getElem?_of_mem ((lvl_mem ad (i, .int x) ls 0).mpr ⟨i, .int x, hx, by rw [Nat.zero_add]; rfl⟩)
  exact lv_iinc C.1 C.2.1 hd hl hj hv hi rfl (fun lsA1 hl1 => (k lsA1 H locs cells slots hW hS hc hz (LV.set (v := .int v) hn hl1)))
theorem VP.iadd {X : PX l M d Q} {x y : Int32} (hd : decode M.2.1 pc = .ok (.iadd, 1)) (k : VP X (pc + 1) ls (.int (x + y) :: st) h n c z) : VP X pc ls (.int y :: .int x :: st) h n c z := by
  obtain ⟨⟨p, e, R, s, m, args, below, meth, cd, D, T, ad, adV, B, cm, sm, Qs⟩, C, hcm, hzm, hE⟩ := X
  change Cx l M _ p R s m args meth cd D T ad adV B at C
  change cm ≤ R.cells at hcm
  change sm ≤ R.slots at hzm
  change En l M Q p e R s m args below meth cd D T ad B cm sm Qs at hE
  intro lsA H locs cells slots hW hS hc hz hl
  change _ ≤ cm at hc
  change _ ≤ sm at hz
  change Wd D T ad B _ _ H at hW
  change va_S (fun q => B ≤ q) s.heap H locs at hS
  change LV lsA M.2.2.1 ad ls at hl
  change W p l e R s m args below meth cd H locs cells slots Qs (F0 m _ lsA (List.map (mv ad) _))
  exact lv_iadd C.1 C.2.1 hd (k lsA H locs cells slots hW hS hc hz hl)
theorem VP.isub {X : PX l M d Q} {x y : Int32} (hd : decode M.2.1 pc = .ok (.isub, 1)) (k : VP X (pc + 1) ls (.int (x - y) :: st) h n c z) : VP X pc ls (.int y :: .int x :: st) h n c z := by
  obtain ⟨⟨p, e, R, s, m, args, below, meth, cd, D, T, ad, adV, B, cm, sm, Qs⟩, C, hcm, hzm, hE⟩ := X
  change Cx l M _ p R s m args meth cd D T ad adV B at C
  change cm ≤ R.cells at hcm
  change sm ≤ R.slots at hzm
  change En l M Q p e R s m args below meth cd D T ad B cm sm Qs at hE
  intro lsA H locs cells slots hW hS hc hz hl
  change _ ≤ cm at hc
  change _ ≤ sm at hz
  change Wd D T ad B _ _ H at hW
  change va_S (fun q => B ≤ q) s.heap H locs at hS
  change LV lsA M.2.2.1 ad ls at hl
  change W p l e R s m args below meth cd H locs cells slots Qs (F0 m _ lsA (List.map (mv ad) _))
  exact lv_isub C.1 C.2.1 hd (k lsA H locs cells slots hW hS hc hz hl)
theorem VP.imul {X : PX l M d Q} {x y : Int32} (hd : decode M.2.1 pc = .ok (.imul, 1)) (k : VP X (pc + 1) ls (.int (x * y) :: st) h n c z) : VP X pc ls (.int y :: .int x :: st) h n c z := by
  obtain ⟨⟨p, e, R, s, m, args, below, meth, cd, D, T, ad, adV, B, cm, sm, Qs⟩, C, hcm, hzm, hE⟩ := X
  change Cx l M _ p R s m args meth cd D T ad adV B at C
  change cm ≤ R.cells at hcm
  change sm ≤ R.slots at hzm
  change En l M Q p e R s m args below meth cd D T ad B cm sm Qs at hE
  intro lsA H locs cells slots hW hS hc hz hl
  change _ ≤ cm at hc
  change _ ≤ sm at hz
  change Wd D T ad B _ _ H at hW
  change va_S (fun q => B ≤ q) s.heap H locs at hS
  change LV lsA M.2.2.1 ad ls at hl
  change W p l e R s m args below meth cd H locs cells slots Qs (F0 m _ lsA (List.map (mv ad) _))
  exact lv_imul C.1 C.2.1 hd (k lsA H locs cells slots hW hS hc hz hl)
theorem VP.iand {X : PX l M d Q} {x y : Int32} (hd : decode M.2.1 pc = .ok (.iand, 1)) (k : VP X (pc + 1) ls (.int (x &&& y) :: st) h n c z) : VP X pc ls (.int y :: .int x :: st) h n c z := by
  obtain ⟨⟨p, e, R, s, m, args, below, meth, cd, D, T, ad, adV, B, cm, sm, Qs⟩, C, hcm, hzm, hE⟩ := X
  change Cx l M _ p R s m args meth cd D T ad adV B at C
  change cm ≤ R.cells at hcm
  change sm ≤ R.slots at hzm
  change En l M Q p e R s m args below meth cd D T ad B cm sm Qs at hE
  intro lsA H locs cells slots hW hS hc hz hl
  change _ ≤ cm at hc
  change _ ≤ sm at hz
  change Wd D T ad B _ _ H at hW
  change va_S (fun q => B ≤ q) s.heap H locs at hS
  change LV lsA M.2.2.1 ad ls at hl
  change W p l e R s m args below meth cd H locs cells slots Qs (F0 m _ lsA (List.map (mv ad) _))
  exact lv_iand C.1 C.2.1 hd (k lsA H locs cells slots hW hS hc hz hl)
theorem VP.ior {X : PX l M d Q} {x y : Int32} (hd : decode M.2.1 pc = .ok (.ior, 1)) (k : VP X (pc + 1) ls (.int (x ||| y) :: st) h n c z) : VP X pc ls (.int y :: .int x :: st) h n c z := by
  obtain ⟨⟨p, e, R, s, m, args, below, meth, cd, D, T, ad, adV, B, cm, sm, Qs⟩, C, hcm, hzm, hE⟩ := X
  change Cx l M _ p R s m args meth cd D T ad adV B at C
  change cm ≤ R.cells at hcm
  change sm ≤ R.slots at hzm
  change En l M Q p e R s m args below meth cd D T ad B cm sm Qs at hE
  intro lsA H locs cells slots hW hS hc hz hl
  change _ ≤ cm at hc
  change _ ≤ sm at hz
  change Wd D T ad B _ _ H at hW
  change va_S (fun q => B ≤ q) s.heap H locs at hS
  change LV lsA M.2.2.1 ad ls at hl
  change W p l e R s m args below meth cd H locs cells slots Qs (F0 m _ lsA (List.map (mv ad) _))
  exact lv_ior C.1 C.2.1 hd (k lsA H locs cells slots hW hS hc hz hl)
theorem VP.ixor {X : PX l M d Q} {x y : Int32} (hd : decode M.2.1 pc = .ok (.ixor, 1)) (k : VP X (pc + 1) ls (.int (x ^^^ y) :: st) h n c z) : VP X pc ls (.int y :: .int x :: st) h n c z := by
  obtain ⟨⟨p, e, R, s, m, args, below, meth, cd, D, T, ad, adV, B, cm, sm, Qs⟩, C, hcm, hzm, hE⟩ := X
  change Cx l M _ p R s m args meth cd D T ad adV B at C
  change cm ≤ R.cells at hcm
  change sm ≤ R.slots at hzm
  change En l M Q p e R s m args below meth cd D T ad B cm sm Qs at hE
  intro lsA H locs cells slots hW hS hc hz hl
  change _ ≤ cm at hc
  change _ ≤ sm at hz
  change Wd D T ad B _ _ H at hW
  change va_S (fun q => B ≤ q) s.heap H locs at hS
  change LV lsA M.2.2.1 ad ls at hl
  change W p l e R s m args below meth cd H locs cells slots Qs (F0 m _ lsA (List.map (mv ad) _))
  exact lv_ixor C.1 C.2.1 hd (k lsA H locs cells slots hW hS hc hz hl)
theorem VP.ishl {X : PX l M d Q} {x y : Int32} (hd : decode M.2.1 pc = .ok (.ishl, 1)) (k : VP X (pc + 1) ls (.int (x <<< (y &&& 31)) :: st) h n c z) : VP X pc ls (.int y :: .int x :: st) h n c z := by
  obtain ⟨⟨p, e, R, s, m, args, below, meth, cd, D, T, ad, adV, B, cm, sm, Qs⟩, C, hcm, hzm, hE⟩ := X
  change Cx l M _ p R s m args meth cd D T ad adV B at C
  change cm ≤ R.cells at hcm
  change sm ≤ R.slots at hzm
  change En l M Q p e R s m args below meth cd D T ad B cm sm Qs at hE
  intro lsA H locs cells slots hW hS hc hz hl
  change _ ≤ cm at hc
  change _ ≤ sm at hz
  change Wd D T ad B _ _ H at hW
  change va_S (fun q => B ≤ q) s.heap H locs at hS
  change LV lsA M.2.2.1 ad ls at hl
  change W p l e R s m args below meth cd H locs cells slots Qs (F0 m _ lsA (List.map (mv ad) _))
  exact lv_ishl C.1 C.2.1 hd (k lsA H locs cells slots hW hS hc hz hl)
theorem VP.ishr {X : PX l M d Q} {x y : Int32} (hd : decode M.2.1 pc = .ok (.ishr, 1)) (k : VP X (pc + 1) ls (.int (x >>> (y &&& 31)) :: st) h n c z) : VP X pc ls (.int y :: .int x :: st) h n c z := by
  obtain ⟨⟨p, e, R, s, m, args, below, meth, cd, D, T, ad, adV, B, cm, sm, Qs⟩, C, hcm, hzm, hE⟩ := X
  change Cx l M _ p R s m args meth cd D T ad adV B at C
  change cm ≤ R.cells at hcm
  change sm ≤ R.slots at hzm
  change En l M Q p e R s m args below meth cd D T ad B cm sm Qs at hE
  intro lsA H locs cells slots hW hS hc hz hl
  change _ ≤ cm at hc
  change _ ≤ sm at hz
  change Wd D T ad B _ _ H at hW
  change va_S (fun q => B ≤ q) s.heap H locs at hS
  change LV lsA M.2.2.1 ad ls at hl
  change W p l e R s m args below meth cd H locs cells slots Qs (F0 m _ lsA (List.map (mv ad) _))
  exact lv_ishr C.1 C.2.1 hd (k lsA H locs cells slots hW hS hc hz hl)
theorem VP.idiv {X : PX l M d Q} {x y : Int32} (hd : decode M.2.1 pc = .ok (.idiv, 1)) (hy : ¬ y = 0) (k : VP X (pc + 1) ls (.int (x / y) :: st) h n c z) : VP X pc ls (.int y :: .int x :: st) h n c z := by
  obtain ⟨⟨p, e, R, s, m, args, below, meth, cd, D, T, ad, adV, B, cm, sm, Qs⟩, C, hcm, hzm, hE⟩ := X
  change Cx l M _ p R s m args meth cd D T ad adV B at C
  change cm ≤ R.cells at hcm
  change sm ≤ R.slots at hzm
  change En l M Q p e R s m args below meth cd D T ad B cm sm Qs at hE
  intro lsA H locs cells slots hW hS hc hz hl
  change _ ≤ cm at hc
  change _ ≤ sm at hz
  change Wd D T ad B _ _ H at hW
  change va_S (fun q => B ≤ q) s.heap H locs at hS
  change LV lsA M.2.2.1 ad ls at hl
  change W p l e R s m args below meth cd H locs cells slots Qs (F0 m _ lsA (List.map (mv ad) _))
  exact lv_idiv C.1 C.2.1 hd hy (k lsA H locs cells slots hW hS hc hz hl)
theorem VP.irem {X : PX l M d Q} {x y : Int32} (hd : decode M.2.1 pc = .ok (.irem, 1)) (hy : ¬ y = 0) (k : VP X (pc + 1) ls (.int (x - x / y * y) :: st) h n c z) : VP X pc ls (.int y :: .int x :: st) h n c z := by
  obtain ⟨⟨p, e, R, s, m, args, below, meth, cd, D, T, ad, adV, B, cm, sm, Qs⟩, C, hcm, hzm, hE⟩ := X
  change Cx l M _ p R s m args meth cd D T ad adV B at C
  change cm ≤ R.cells at hcm
  change sm ≤ R.slots at hzm
  change En l M Q p e R s m args below meth cd D T ad B cm sm Qs at hE
  intro lsA H locs cells slots hW hS hc hz hl
  change _ ≤ cm at hc
  change _ ≤ sm at hz
  change Wd D T ad B _ _ H at hW
  change va_S (fun q => B ≤ q) s.heap H locs at hS
  change LV lsA M.2.2.1 ad ls at hl
  change W p l e R s m args below meth cd H locs cells slots Qs (F0 m _ lsA (List.map (mv ad) _))
  exact lv_irem C.1 C.2.1 hd hy (k lsA H locs cells slots hW hS hc hz hl)
theorem VP.ineg {X : PX l M d Q} {x : Int32} (hd : decode M.2.1 pc = .ok (.ineg, 1)) (k : VP X (pc + 1) ls (.int (-x) :: st) h n c z) : VP X pc ls (.int x :: st) h n c z := by
  obtain ⟨⟨p, e, R, s, m, args, below, meth, cd, D, T, ad, adV, B, cm, sm, Qs⟩, C, hcm, hzm, hE⟩ := X
  change Cx l M _ p R s m args meth cd D T ad adV B at C
  change cm ≤ R.cells at hcm
  change sm ≤ R.slots at hzm
  change En l M Q p e R s m args below meth cd D T ad B cm sm Qs at hE
  intro lsA H locs cells slots hW hS hc hz hl
  change _ ≤ cm at hc
  change _ ≤ sm at hz
  change Wd D T ad B _ _ H at hW
  change va_S (fun q => B ≤ q) s.heap H locs at hS
  change LV lsA M.2.2.1 ad ls at hl
  change W p l e R s m args below meth cd H locs cells slots Qs (F0 m _ lsA (List.map (mv ad) _))
  exact lv_ineg C.1 C.2.1 hd (k lsA H locs cells slots hW hS hc hz hl)
theorem VP.i2l {X : PX l M d Q} {x : Int32} (hd : decode M.2.1 pc = .ok (.i2l, 1)) (k : VP X (pc + 1) ls (.long x.toInt64 :: st) h n c z) : VP X pc ls (.int x :: st) h n c z := by
  obtain ⟨⟨p, e, R, s, m, args, below, meth, cd, D, T, ad, adV, B, cm, sm, Qs⟩, C, hcm, hzm, hE⟩ := X
  change Cx l M _ p R s m args meth cd D T ad adV B at C
  change cm ≤ R.cells at hcm
  change sm ≤ R.slots at hzm
  change En l M Q p e R s m args below meth cd D T ad B cm sm Qs at hE
  intro lsA H locs cells slots hW hS hc hz hl
  change _ ≤ cm at hc
  change _ ≤ sm at hz
  change Wd D T ad B _ _ H at hW
  change va_S (fun q => B ≤ q) s.heap H locs at hS
  change LV lsA M.2.2.1 ad ls at hl
  change W p l e R s m args below meth cd H locs cells slots Qs (F0 m _ lsA (List.map (mv ad) _))
  exact lv_i2l C.1 C.2.1 hd rfl (k lsA H locs cells slots hW hS hc hz hl)
theorem VP.i2b {X : PX l M d Q} {x : Int32} (hd : decode M.2.1 pc = .ok (.i2b, 1)) (k : VP X (pc + 1) ls (.int x.toInt8.toInt32 :: st) h n c z) : VP X pc ls (.int x :: st) h n c z := by
  obtain ⟨⟨p, e, R, s, m, args, below, meth, cd, D, T, ad, adV, B, cm, sm, Qs⟩, C, hcm, hzm, hE⟩ := X
  change Cx l M _ p R s m args meth cd D T ad adV B at C
  change cm ≤ R.cells at hcm
  change sm ≤ R.slots at hzm
  change En l M Q p e R s m args below meth cd D T ad B cm sm Qs at hE
  intro lsA H locs cells slots hW hS hc hz hl
  change _ ≤ cm at hc
  change _ ≤ sm at hz
  change Wd D T ad B _ _ H at hW
  change va_S (fun q => B ≤ q) s.heap H locs at hS
  change LV lsA M.2.2.1 ad ls at hl
  change W p l e R s m args below meth cd H locs cells slots Qs (F0 m _ lsA (List.map (mv ad) _))
  exact lv_i2b C.1 C.2.1 hd rfl (k lsA H locs cells slots hW hS hc hz hl)
theorem VP.i2s {X : PX l M d Q} {x : Int32} (hd : decode M.2.1 pc = .ok (.i2s, 1)) (k : VP X (pc + 1) ls (.int x.toInt16.toInt32 :: st) h n c z) : VP X pc ls (.int x :: st) h n c z := by
  obtain ⟨⟨p, e, R, s, m, args, below, meth, cd, D, T, ad, adV, B, cm, sm, Qs⟩, C, hcm, hzm, hE⟩ := X
  change Cx l M _ p R s m args meth cd D T ad adV B at C
  change cm ≤ R.cells at hcm
  change sm ≤ R.slots at hzm
  change En l M Q p e R s m args below meth cd D T ad B cm sm Qs at hE
  intro lsA H locs cells slots hW hS hc hz hl
  change _ ≤ cm at hc
  change _ ≤ sm at hz
  change Wd D T ad B _ _ H at hW
  change va_S (fun q => B ≤ q) s.heap H locs at hS
  change LV lsA M.2.2.1 ad ls at hl
  change W p l e R s m args below meth cd H locs cells slots Qs (F0 m _ lsA (List.map (mv ad) _))
  exact lv_i2s C.1 C.2.1 hd rfl (k lsA H locs cells slots hW hS hc hz hl)
theorem VP.i2c {X : PX l M d Q} {x : Int32} (hd : decode M.2.1 pc = .ok (.i2c, 1)) (k : VP X (pc + 1) ls (.int (x.toUInt32 % 65536).toInt32 :: st) h n c z) : VP X pc ls (.int x :: st) h n c z := by
  obtain ⟨⟨p, e, R, s, m, args, below, meth, cd, D, T, ad, adV, B, cm, sm, Qs⟩, C, hcm, hzm, hE⟩ := X
  change Cx l M _ p R s m args meth cd D T ad adV B at C
  change cm ≤ R.cells at hcm
  change sm ≤ R.slots at hzm
  change En l M Q p e R s m args below meth cd D T ad B cm sm Qs at hE
  intro lsA H locs cells slots hW hS hc hz hl
  change _ ≤ cm at hc
  change _ ≤ sm at hz
  change Wd D T ad B _ _ H at hW
  change va_S (fun q => B ≤ q) s.heap H locs at hS
  change LV lsA M.2.2.1 ad ls at hl
  change W p l e R s m args below meth cd H locs cells slots Qs (F0 m _ lsA (List.map (mv ad) _))
  exact lv_i2c C.1 C.2.1 hd rfl (k lsA H locs cells slots hW hS hc hz hl)
theorem VP.iushr {X : PX l M d Q} {x y : Int32} (hd : decode M.2.1 pc = .ok (.iushr, 1)) (k : VP X (pc + 1) ls (.int (x.toUInt32 >>> (y.toUInt32 &&& Int32.toUInt32 31)).toInt32 :: st) h n c z) : VP X pc ls (.int y :: .int x :: st) h n c z := by
  obtain ⟨⟨p, e, R, s, m, args, below, meth, cd, D, T, ad, adV, B, cm, sm, Qs⟩, C, hcm, hzm, hE⟩ := X
  change Cx l M _ p R s m args meth cd D T ad adV B at C
  change cm ≤ R.cells at hcm
  change sm ≤ R.slots at hzm
  change En l M Q p e R s m args below meth cd D T ad B cm sm Qs at hE
  intro lsA H locs cells slots hW hS hc hz hl
  change _ ≤ cm at hc
  change _ ≤ sm at hz
  change Wd D T ad B _ _ H at hW
  change va_S (fun q => B ≤ q) s.heap H locs at hS
  change LV lsA M.2.2.1 ad ls at hl
  change W p l e R s m args below meth cd H locs cells slots Qs (F0 m _ lsA (List.map (mv ad) _))
  exact lv_iushr C.1 C.2.1 hd rfl (k lsA H locs cells slots hW hS hc hz hl)
theorem VP.lcmp {X : PX l M d Q} {x y : Int64} (hd : decode M.2.1 pc = .ok (.lcmp, 1)) (k : VP X (pc + 1) ls (.int (lg_cmp x y) :: st) h n c z) : VP X pc ls (.long y :: .long x :: st) h n c z := by
  obtain ⟨⟨p, e, R, s, m, args, below, meth, cd, D, T, ad, adV, B, cm, sm, Qs⟩, C, hcm, hzm, hE⟩ := X
  change Cx l M _ p R s m args meth cd D T ad adV B at C
  change cm ≤ R.cells at hcm
  change sm ≤ R.slots at hzm
  change En l M Q p e R s m args below meth cd D T ad B cm sm Qs at hE
  intro lsA H locs cells slots hW hS hc hz hl
  change _ ≤ cm at hc
  change _ ≤ sm at hz
  change Wd D T ad B _ _ H at hW
  change va_S (fun q => B ≤ q) s.heap H locs at hS
  change LV lsA M.2.2.1 ad ls at hl
  change W p l e R s m args below meth cd H locs cells slots Qs (F0 m _ lsA (List.map (mv ad) _))
  exact W.lcmp C.1 C.2.1 hd (k lsA H locs cells slots hW hS hc hz hl)
theorem VP.null {X : PX l M d Q}  (hd : decode M.2.1 pc = .ok (.aconst_null, 1)) (k : VP X (pc + 1) ls (.null :: st) h n c z) : VP X pc ls st h n c z := by
  obtain ⟨⟨p, e, R, s, m, args, below, meth, cd, D, T, ad, adV, B, cm, sm, Qs⟩, C, hcm, hzm, hE⟩ := X
  change Cx l M _ p R s m args meth cd D T ad adV B at C
  change cm ≤ R.cells at hcm
  change sm ≤ R.slots at hzm
  change En l M Q p e R s m args below meth cd D T ad B cm sm Qs at hE
  intro lsA H locs cells slots hW hS hc hz hl
  change _ ≤ cm at hc
  change _ ≤ sm at hz
  change Wd D T ad B _ _ H at hW
  change va_S (fun q => B ≤ q) s.heap H locs at hS
  change LV lsA M.2.2.1 ad ls at hl
  change W p l e R s m args below meth cd H locs cells slots Qs (F0 m _ lsA (List.map (mv ad) _))
  exact lv_null C.1 C.2.1 hd (k lsA H locs cells slots hW hS hc hz hl)
theorem VP.dup {X : PX l M d Q} {a : Value} (hd : decode M.2.1 pc = .ok (.dup, 1)) (ha : a.category = 1) (k : VP X (pc + 1) ls (a :: a :: st) h n c z) : VP X pc ls (a :: st) h n c z := by
  obtain ⟨⟨p, e, R, s, m, args, below, meth, cd, D, T, ad, adV, B, cm, sm, Qs⟩, C, hcm, hzm, hE⟩ := X
  change Cx l M _ p R s m args meth cd D T ad adV B at C
  change cm ≤ R.cells at hcm
  change sm ≤ R.slots at hzm
  change En l M Q p e R s m args below meth cd D T ad B cm sm Qs at hE
  intro lsA H locs cells slots hW hS hc hz hl
  change _ ≤ cm at hc
  change _ ≤ sm at hz
  change Wd D T ad B _ _ H at hW
  change va_S (fun q => B ≤ q) s.heap H locs at hS
  change LV lsA M.2.2.1 ad ls at hl
  change W p l e R s m args below meth cd H locs cells slots Qs (F0 m _ lsA (List.map (mv ad) _))
  exact lv_dup C.1 C.2.1 hd ((mv_cat ad a).trans ha) (k lsA H locs cells slots hW hS hc hz hl)
theorem VP.pop {X : PX l M d Q} {a : Value} (hd : decode M.2.1 pc = .ok (.pop, 1)) (ha : a.category = 1) (k : VP X (pc + 1) ls st h n c z) : VP X pc ls (a :: st) h n c z := by
  obtain ⟨⟨p, e, R, s, m, args, below, meth, cd, D, T, ad, adV, B, cm, sm, Qs⟩, C, hcm, hzm, hE⟩ := X
  change Cx l M _ p R s m args meth cd D T ad adV B at C
  change cm ≤ R.cells at hcm
  change sm ≤ R.slots at hzm
  change En l M Q p e R s m args below meth cd D T ad B cm sm Qs at hE
  intro lsA H locs cells slots hW hS hc hz hl
  change _ ≤ cm at hc
  change _ ≤ sm at hz
  change Wd D T ad B _ _ H at hW
  change va_S (fun q => B ≤ q) s.heap H locs at hS
  change LV lsA M.2.2.1 ad ls at hl
  change W p l e R s m args below meth cd H locs cells slots Qs (F0 m _ lsA (List.map (mv ad) _))
  exact lv_pop C.1 C.2.1 hd ((mv_cat ad a).trans ha) (k lsA H locs cells slots hW hS hc hz hl)
theorem VP.dup2 {X : PX l M d Q} {a b : Value} (hd : decode M.2.1 pc = .ok (.dup2, 1)) (ha : a.category = 1) (hb : b.category = 1) (k : VP X (pc + 1) ls (a :: b :: a :: b :: st) h n c z) : VP X pc ls (a :: b :: st) h n c z := by
  obtain ⟨⟨p, e, R, s, m, args, below, meth, cd, D, T, ad, adV, B, cm, sm, Qs⟩, C, hcm, hzm, hE⟩ := X
  change Cx l M _ p R s m args meth cd D T ad adV B at C
  change cm ≤ R.cells at hcm
  change sm ≤ R.slots at hzm
  change En l M Q p e R s m args below meth cd D T ad B cm sm Qs at hE
  intro lsA H locs cells slots hW hS hc hz hl
  change _ ≤ cm at hc
  change _ ≤ sm at hz
  change Wd D T ad B _ _ H at hW
  change va_S (fun q => B ≤ q) s.heap H locs at hS
  change LV lsA M.2.2.1 ad ls at hl
  change W p l e R s m args below meth cd H locs cells slots Qs (F0 m _ lsA (List.map (mv ad) _))
  exact lv_dup2_11 C.1 C.2.1 hd ((mv_cat ad a).trans ha) ((mv_cat ad b).trans hb) (k lsA H locs cells slots hW hS hc hz hl)
theorem VP.dup_x1 {X : PX l M d Q} {a b : Value} (hd : decode M.2.1 pc = .ok (.dup_x1, 1)) (ha : a.category = 1) (hb : b.category = 1) (k : VP X (pc + 1) ls (a :: b :: a :: st) h n c z) : VP X pc ls (a :: b :: st) h n c z := by
  obtain ⟨⟨p, e, R, s, m, args, below, meth, cd, D, T, ad, adV, B, cm, sm, Qs⟩, C, hcm, hzm, hE⟩ := X
  change Cx l M _ p R s m args meth cd D T ad adV B at C
  change cm ≤ R.cells at hcm
  change sm ≤ R.slots at hzm
  change En l M Q p e R s m args below meth cd D T ad B cm sm Qs at hE
  intro lsA H locs cells slots hW hS hc hz hl
  change _ ≤ cm at hc
  change _ ≤ sm at hz
  change Wd D T ad B _ _ H at hW
  change va_S (fun q => B ≤ q) s.heap H locs at hS
  change LV lsA M.2.2.1 ad ls at hl
  change W p l e R s m args below meth cd H locs cells slots Qs (F0 m _ lsA (List.map (mv ad) _))
  exact lv_dup_x1 C.1 C.2.1 hd ((mv_cat ad a).trans ha) ((mv_cat ad b).trans hb) (k lsA H locs cells slots hW hS hc hz hl)
theorem VP.if_eq {X : PX l M d Q} {x : Int32} {off : Int} {tgt : Nat} (hd : decode M.2.1 pc = .ok (.ifCond .eq off, 3)) (ht : (pc : Int) + off = (tgt : Int)) (kt : x = 0 → VP X tgt ls st h n c z) (kf : ¬ x = 0 → VP X (pc + 3) ls st h n c z) : VP X pc ls (.int x :: st) h n c z := by
  obtain ⟨⟨p, e, R, s, m, args, below, meth, cd, D, T, ad, adV, B, cm, sm, Qs⟩, C, hcm, hzm, hE⟩ := X
  change Cx l M _ p R s m args meth cd D T ad adV B at C
  change cm ≤ R.cells at hcm
  change sm ≤ R.slots at hzm
  change En l M Q p e R s m args below meth cd D T ad B cm sm Qs at hE
  intro lsA H locs cells slots hW hS hc hz hl
  change _ ≤ cm at hc
  change _ ≤ sm at hz
  change Wd D T ad B _ _ H at hW
  change va_S (fun q => B ≤ q) s.heap H locs at hS
  change LV lsA M.2.2.1 ad ls at hl
  change W p l e R s m args below meth cd H locs cells slots Qs (F0 m _ lsA (List.map (mv ad) _))
  exact lv_if_eq C.1 C.2.1 hd ht (fun q => (kt q lsA H locs cells slots hW hS hc hz hl)) (fun q => (kf q lsA H locs cells slots hW hS hc hz hl))
theorem VP.icmp_eq {X : PX l M d Q} {x y : Int32} {off : Int} {tgt : Nat} (hd : decode M.2.1 pc = .ok (.if_icmp .eq off, 3)) (ht : (pc : Int) + off = (tgt : Int)) (kt : x = y → VP X tgt ls st h n c z) (kf : ¬ x = y → VP X (pc + 3) ls st h n c z) : VP X pc ls (.int y :: .int x :: st) h n c z := by
  obtain ⟨⟨p, e, R, s, m, args, below, meth, cd, D, T, ad, adV, B, cm, sm, Qs⟩, C, hcm, hzm, hE⟩ := X
  change Cx l M _ p R s m args meth cd D T ad adV B at C
  change cm ≤ R.cells at hcm
  change sm ≤ R.slots at hzm
  change En l M Q p e R s m args below meth cd D T ad B cm sm Qs at hE
  intro lsA H locs cells slots hW hS hc hz hl
  change _ ≤ cm at hc
  change _ ≤ sm at hz
  change Wd D T ad B _ _ H at hW
  change va_S (fun q => B ≤ q) s.heap H locs at hS
  change LV lsA M.2.2.1 ad ls at hl
  change W p l e R s m args below meth cd H locs cells slots Qs (F0 m _ lsA (List.map (mv ad) _))
  exact lv_icmp_eq C.1 C.2.1 hd ht (fun q => (kt q lsA H locs cells slots hW hS hc hz hl)) (fun q => (kf q lsA H locs cells slots hW hS hc hz hl))
theorem VP.if_ne {X : PX l M d Q} {x : Int32} {off : Int} {tgt : Nat} (hd : decode M.2.1 pc = .ok (.ifCond .ne off, 3)) (ht : (pc : Int) + off = (tgt : Int)) (kt : ¬ x = 0 → VP X tgt ls st h n c z) (kf : x = 0 → VP X (pc + 3) ls st h n c z) : VP X pc ls (.int x :: st) h n c z := by
  obtain ⟨⟨p, e, R, s, m, args, below, meth, cd, D, T, ad, adV, B, cm, sm, Qs⟩, C, hcm, hzm, hE⟩ := X
  change Cx l M _ p R s m args meth cd D T ad adV B at C
  change cm ≤ R.cells at hcm
  change sm ≤ R.slots at hzm
  change En l M Q p e R s m args below meth cd D T ad B cm sm Qs at hE
  intro lsA H locs cells slots hW hS hc hz hl
  change _ ≤ cm at hc
  change _ ≤ sm at hz
  change Wd D T ad B _ _ H at hW
  change va_S (fun q => B ≤ q) s.heap H locs at hS
  change LV lsA M.2.2.1 ad ls at hl
  change W p l e R s m args below meth cd H locs cells slots Qs (F0 m _ lsA (List.map (mv ad) _))
  exact lv_if_ne C.1 C.2.1 hd ht (fun q => (kt q lsA H locs cells slots hW hS hc hz hl)) (fun q => (kf q lsA H locs cells slots hW hS hc hz hl))
theorem VP.icmp_ne {X : PX l M d Q} {x y : Int32} {off : Int} {tgt : Nat} (hd : decode M.2.1 pc = .ok (.if_icmp .ne off, 3)) (ht : (pc : Int) + off = (tgt : Int)) (kt : ¬ x = y → VP X tgt ls st h n c z) (kf : x = y → VP X (pc + 3) ls st h n c z) : VP X pc ls (.int y :: .int x :: st) h n c z := by
  obtain ⟨⟨p, e, R, s, m, args, below, meth, cd, D, T, ad, adV, B, cm, sm, Qs⟩, C, hcm, hzm, hE⟩ := X
  change Cx l M _ p R s m args meth cd D T ad adV B at C
  change cm ≤ R.cells at hcm
  change sm ≤ R.slots at hzm
  change En l M Q p e R s m args below meth cd D T ad B cm sm Qs at hE
  intro lsA H locs cells slots hW hS hc hz hl
  change _ ≤ cm at hc
  change _ ≤ sm at hz
  change Wd D T ad B _ _ H at hW
  change va_S (fun q => B ≤ q) s.heap H locs at hS
  change LV lsA M.2.2.1 ad ls at hl
  change W p l e R s m args below meth cd H locs cells slots Qs (F0 m _ lsA (List.map (mv ad) _))
  exact lv_icmp_ne C.1 C.2.1 hd ht (fun q => (kt q lsA H locs cells slots hW hS hc hz hl)) (fun q => (kf q lsA H locs cells slots hW hS hc hz hl))
theorem VP.if_lt {X : PX l M d Q} {x : Int32} {off : Int} {tgt : Nat} (hd : decode M.2.1 pc = .ok (.ifCond .lt off, 3)) (ht : (pc : Int) + off = (tgt : Int)) (kt : x < 0 → VP X tgt ls st h n c z) (kf : ¬ x < 0 → VP X (pc + 3) ls st h n c z) : VP X pc ls (.int x :: st) h n c z := by
  obtain ⟨⟨p, e, R, s, m, args, below, meth, cd, D, T, ad, adV, B, cm, sm, Qs⟩, C, hcm, hzm, hE⟩ := X
  change Cx l M _ p R s m args meth cd D T ad adV B at C
  change cm ≤ R.cells at hcm
  change sm ≤ R.slots at hzm
  change En l M Q p e R s m args below meth cd D T ad B cm sm Qs at hE
  intro lsA H locs cells slots hW hS hc hz hl
  change _ ≤ cm at hc
  change _ ≤ sm at hz
  change Wd D T ad B _ _ H at hW
  change va_S (fun q => B ≤ q) s.heap H locs at hS
  change LV lsA M.2.2.1 ad ls at hl
  change W p l e R s m args below meth cd H locs cells slots Qs (F0 m _ lsA (List.map (mv ad) _))
  exact lv_if_lt C.1 C.2.1 hd ht (fun q => (kt q lsA H locs cells slots hW hS hc hz hl)) (fun q => (kf q lsA H locs cells slots hW hS hc hz hl))
theorem VP.icmp_lt {X : PX l M d Q} {x y : Int32} {off : Int} {tgt : Nat} (hd : decode M.2.1 pc = .ok (.if_icmp .lt off, 3)) (ht : (pc : Int) + off = (tgt : Int)) (kt : x < y → VP X tgt ls st h n c z) (kf : ¬ x < y → VP X (pc + 3) ls st h n c z) : VP X pc ls (.int y :: .int x :: st) h n c z := by
  obtain ⟨⟨p, e, R, s, m, args, below, meth, cd, D, T, ad, adV, B, cm, sm, Qs⟩, C, hcm, hzm, hE⟩ := X
  change Cx l M _ p R s m args meth cd D T ad adV B at C
  change cm ≤ R.cells at hcm
  change sm ≤ R.slots at hzm
  change En l M Q p e R s m args below meth cd D T ad B cm sm Qs at hE
  intro lsA H locs cells slots hW hS hc hz hl
  change _ ≤ cm at hc
  change _ ≤ sm at hz
  change Wd D T ad B _ _ H at hW
  change va_S (fun q => B ≤ q) s.heap H locs at hS
  change LV lsA M.2.2.1 ad ls at hl
  change W p l e R s m args below meth cd H locs cells slots Qs (F0 m _ lsA (List.map (mv ad) _))
  exact lv_icmp_lt C.1 C.2.1 hd ht (fun q => (kt q lsA H locs cells slots hW hS hc hz hl)) (fun q => (kf q lsA H locs cells slots hW hS hc hz hl))
theorem VP.if_ge {X : PX l M d Q} {x : Int32} {off : Int} {tgt : Nat} (hd : decode M.2.1 pc = .ok (.ifCond .ge off, 3)) (ht : (pc : Int) + off = (tgt : Int)) (kt : 0 ≤ x → VP X tgt ls st h n c z) (kf : ¬ 0 ≤ x → VP X (pc + 3) ls st h n c z) : VP X pc ls (.int x :: st) h n c z := by
  obtain ⟨⟨p, e, R, s, m, args, below, meth, cd, D, T, ad, adV, B, cm, sm, Qs⟩, C, hcm, hzm, hE⟩ := X
  change Cx l M _ p R s m args meth cd D T ad adV B at C
  change cm ≤ R.cells at hcm
  change sm ≤ R.slots at hzm
  change En l M Q p e R s m args below meth cd D T ad B cm sm Qs at hE
  intro lsA H locs cells slots hW hS hc hz hl
  change _ ≤ cm at hc
  change _ ≤ sm at hz
  change Wd D T ad B _ _ H at hW
  change va_S (fun q => B ≤ q) s.heap H locs at hS
  change LV lsA M.2.2.1 ad ls at hl
  change W p l e R s m args below meth cd H locs cells slots Qs (F0 m _ lsA (List.map (mv ad) _))
  exact lv_if_ge C.1 C.2.1 hd ht (fun q => (kt q lsA H locs cells slots hW hS hc hz hl)) (fun q => (kf q lsA H locs cells slots hW hS hc hz hl))
theorem VP.icmp_ge {X : PX l M d Q} {x y : Int32} {off : Int} {tgt : Nat} (hd : decode M.2.1 pc = .ok (.if_icmp .ge off, 3)) (ht : (pc : Int) + off = (tgt : Int)) (kt : y ≤ x → VP X tgt ls st h n c z) (kf : ¬ y ≤ x → VP X (pc + 3) ls st h n c z) : VP X pc ls (.int y :: .int x :: st) h n c z := by
  obtain ⟨⟨p, e, R, s, m, args, below, meth, cd, D, T, ad, adV, B, cm, sm, Qs⟩, C, hcm, hzm, hE⟩ := X
  change Cx l M _ p R s m args meth cd D T ad adV B at C
  change cm ≤ R.cells at hcm
  change sm ≤ R.slots at hzm
  change En l M Q p e R s m args below meth cd D T ad B cm sm Qs at hE
  intro lsA H locs cells slots hW hS hc hz hl
  change _ ≤ cm at hc
  change _ ≤ sm at hz
  change Wd D T ad B _ _ H at hW
  change va_S (fun q => B ≤ q) s.heap H locs at hS
  change LV lsA M.2.2.1 ad ls at hl
  change W p l e R s m args below meth cd H locs cells slots Qs (F0 m _ lsA (List.map (mv ad) _))
  exact lv_icmp_ge C.1 C.2.1 hd ht (fun q => (kt q lsA H locs cells slots hW hS hc hz hl)) (fun q => (kf q lsA H locs cells slots hW hS hc hz hl))
theorem VP.if_gt {X : PX l M d Q} {x : Int32} {off : Int} {tgt : Nat} (hd : decode M.2.1 pc = .ok (.ifCond .gt off, 3)) (ht : (pc : Int) + off = (tgt : Int)) (kt : 0 < x → VP X tgt ls st h n c z) (kf : ¬ 0 < x → VP X (pc + 3) ls st h n c z) : VP X pc ls (.int x :: st) h n c z := by
  obtain ⟨⟨p, e, R, s, m, args, below, meth, cd, D, T, ad, adV, B, cm, sm, Qs⟩, C, hcm, hzm, hE⟩ := X
  change Cx l M _ p R s m args meth cd D T ad adV B at C
  change cm ≤ R.cells at hcm
  change sm ≤ R.slots at hzm
  change En l M Q p e R s m args below meth cd D T ad B cm sm Qs at hE
  intro lsA H locs cells slots hW hS hc hz hl
  change _ ≤ cm at hc
  change _ ≤ sm at hz
  change Wd D T ad B _ _ H at hW
  change va_S (fun q => B ≤ q) s.heap H locs at hS
  change LV lsA M.2.2.1 ad ls at hl
  change W p l e R s m args below meth cd H locs cells slots Qs (F0 m _ lsA (List.map (mv ad) _))
  exact lv_if_gt C.1 C.2.1 hd ht (fun q => (kt q lsA H locs cells slots hW hS hc hz hl)) (fun q => (kf q lsA H locs cells slots hW hS hc hz hl))
theorem VP.icmp_gt {X : PX l M d Q} {x y : Int32} {off : Int} {tgt : Nat} (hd : decode M.2.1 pc = .ok (.if_icmp .gt off, 3)) (ht : (pc : Int) + off = (tgt : Int)) (kt : y < x → VP X tgt ls st h n c z) (kf : ¬ y < x → VP X (pc + 3) ls st h n c z) : VP X pc ls (.int y :: .int x :: st) h n c z := by
  obtain ⟨⟨p, e, R, s, m, args, below, meth, cd, D, T, ad, adV, B, cm, sm, Qs⟩, C, hcm, hzm, hE⟩ := X
  change Cx l M _ p R s m args meth cd D T ad adV B at C
  change cm ≤ R.cells at hcm
  change sm ≤ R.slots at hzm
  change En l M Q p e R s m args below meth cd D T ad B cm sm Qs at hE
  intro lsA H locs cells slots hW hS hc hz hl
  change _ ≤ cm at hc
  change _ ≤ sm at hz
  change Wd D T ad B _ _ H at hW
  change va_S (fun q => B ≤ q) s.heap H locs at hS
  change LV lsA M.2.2.1 ad ls at hl
  change W p l e R s m args below meth cd H locs cells slots Qs (F0 m _ lsA (List.map (mv ad) _))
  exact lv_icmp_gt C.1 C.2.1 hd ht (fun q => (kt q lsA H locs cells slots hW hS hc hz hl)) (fun q => (kf q lsA H locs cells slots hW hS hc hz hl))
theorem VP.if_le {X : PX l M d Q} {x : Int32} {off : Int} {tgt : Nat} (hd : decode M.2.1 pc = .ok (.ifCond .le off, 3)) (ht : (pc : Int) + off = (tgt : Int)) (kt : x ≤ 0 → VP X tgt ls st h n c z) (kf : ¬ x ≤ 0 → VP X (pc + 3) ls st h n c z) : VP X pc ls (.int x :: st) h n c z := by
  obtain ⟨⟨p, e, R, s, m, args, below, meth, cd, D, T, ad, adV, B, cm, sm, Qs⟩, C, hcm, hzm, hE⟩ := X
  change Cx l M _ p R s m args meth cd D T ad adV B at C
  change cm ≤ R.cells at hcm
  change sm ≤ R.slots at hzm
  change En l M Q p e R s m args below meth cd D T ad B cm sm Qs at hE
  intro lsA H locs cells slots hW hS hc hz hl
  change _ ≤ cm at hc
  change _ ≤ sm at hz
  change Wd D T ad B _ _ H at hW
  change va_S (fun q => B ≤ q) s.heap H locs at hS
  change LV lsA M.2.2.1 ad ls at hl
  change W p l e R s m args below meth cd H locs cells slots Qs (F0 m _ lsA (List.map (mv ad) _))
  exact lv_if_le C.1 C.2.1 hd ht (fun q => (kt q lsA H locs cells slots hW hS hc hz hl)) (fun q => (kf q lsA H locs cells slots hW hS hc hz hl))
theorem VP.icmp_le {X : PX l M d Q} {x y : Int32} {off : Int} {tgt : Nat} (hd : decode M.2.1 pc = .ok (.if_icmp .le off, 3)) (ht : (pc : Int) + off = (tgt : Int)) (kt : x ≤ y → VP X tgt ls st h n c z) (kf : ¬ x ≤ y → VP X (pc + 3) ls st h n c z) : VP X pc ls (.int y :: .int x :: st) h n c z := by
  obtain ⟨⟨p, e, R, s, m, args, below, meth, cd, D, T, ad, adV, B, cm, sm, Qs⟩, C, hcm, hzm, hE⟩ := X
  change Cx l M _ p R s m args meth cd D T ad adV B at C
  change cm ≤ R.cells at hcm
  change sm ≤ R.slots at hzm
  change En l M Q p e R s m args below meth cd D T ad B cm sm Qs at hE
  intro lsA H locs cells slots hW hS hc hz hl
  change _ ≤ cm at hc
  change _ ≤ sm at hz
  change Wd D T ad B _ _ H at hW
  change va_S (fun q => B ≤ q) s.heap H locs at hS
  change LV lsA M.2.2.1 ad ls at hl
  change W p l e R s m args below meth cd H locs cells slots Qs (F0 m _ lsA (List.map (mv ad) _))
  exact lv_icmp_le C.1 C.2.1 hd ht (fun q => (kt q lsA H locs cells slots hW hS hc hz hl)) (fun q => (kf q lsA H locs cells slots hW hS hc hz hl))
theorem VP.goto {X : PX l M d Q} {off : Int} {tgt : Nat} (hd : decode M.2.1 pc = .ok (.goto off, 3)) (ht : (pc : Int) + off = (tgt : Int)) (k : VP X tgt ls st h n c z) : VP X pc ls st h n c z := by
  obtain ⟨⟨p, e, R, s, m, args, below, meth, cd, D, T, ad, adV, B, cm, sm, Qs⟩, C, hcm, hzm, hE⟩ := X
  change Cx l M _ p R s m args meth cd D T ad adV B at C
  change cm ≤ R.cells at hcm
  change sm ≤ R.slots at hzm
  change En l M Q p e R s m args below meth cd D T ad B cm sm Qs at hE
  intro lsA H locs cells slots hW hS hc hz hl
  change _ ≤ cm at hc
  change _ ≤ sm at hz
  change Wd D T ad B _ _ H at hW
  change va_S (fun q => B ≤ q) s.heap H locs at hS
  change LV lsA M.2.2.1 ad ls at hl
  change W p l e R s m args below meth cd H locs cells slots Qs (F0 m _ lsA (List.map (mv ad) _))
  exact lv_goto C.1 C.2.1 hd ht (k lsA H locs cells slots hW hS hc hz hl)
theorem VP.lookup {X : PX l M d Q} {dflt : Int} {ps : Array (Int × Int)} {len : Nat} {x : Int32} {off : Int} {tgt : Nat} (hd : decode M.2.1 pc = .ok (.lookupswitch dflt ps, len)) (hp : (ps.toList.zip (ps.toList.drop 1)).all (fun (a, next) => a.1 < next.1) = true) (ho : Op.lookupswitch.offset ps.toList dflt x.toInt = off) (ht : (pc : Int) + off = (tgt : Int)) (k : VP X tgt ls st h n c z) : VP X pc ls (.int x :: st) h n c z := by
  obtain ⟨⟨p, e, R, s, m, args, below, meth, cd, D, T, ad, adV, B, cm, sm, Qs⟩, C, hcm, hzm, hE⟩ := X
  change Cx l M _ p R s m args meth cd D T ad adV B at C
  change cm ≤ R.cells at hcm
  change sm ≤ R.slots at hzm
  change En l M Q p e R s m args below meth cd D T ad B cm sm Qs at hE
  intro lsA H locs cells slots hW hS hc hz hl
  change _ ≤ cm at hc
  change _ ≤ sm at hz
  change Wd D T ad B _ _ H at hW
  change va_S (fun q => B ≤ q) s.heap H locs at hS
  change LV lsA M.2.2.1 ad ls at hl
  change W p l e R s m args below meth cd H locs cells slots Qs (F0 m _ lsA (List.map (mv ad) _))
  exact lv_lookup C.1 C.2.1 hd hp ho ht (k lsA H locs cells slots hW hS hc hz hl)
theorem VP.tableOut {X : PX l M d Q} {dflt lo hi : Int} {offs : Array Int} {len : Nat} {x : Int32} {tgt : Nat} (hd : decode M.2.1 pc = .ok (.tableswitch dflt lo hi offs, len)) (hx : x.toInt < lo ∨ hi < x.toInt) (ht : (pc : Int) + dflt = (tgt : Int)) (k : VP X tgt ls st h n c z) : VP X pc ls (.int x :: st) h n c z := by
  obtain ⟨⟨p, e, R, s, m, args, below, meth, cd, D, T, ad, adV, B, cm, sm, Qs⟩, C, hcm, hzm, hE⟩ := X
  change Cx l M _ p R s m args meth cd D T ad adV B at C
  change cm ≤ R.cells at hcm
  change sm ≤ R.slots at hzm
  change En l M Q p e R s m args below meth cd D T ad B cm sm Qs at hE
  intro lsA H locs cells slots hW hS hc hz hl
  change _ ≤ cm at hc
  change _ ≤ sm at hz
  change Wd D T ad B _ _ H at hW
  change va_S (fun q => B ≤ q) s.heap H locs at hS
  change LV lsA M.2.2.1 ad ls at hl
  change W p l e R s m args below meth cd H locs cells slots Qs (F0 m _ lsA (List.map (mv ad) _))
  exact lv_tableOut C.1 C.2.1 hd hx ht (k lsA H locs cells slots hW hS hc hz hl)
theorem VP.tableIn {X : PX l M d Q} {dflt lo hi : Int} {offs : Array Int} {len : Nat} {x : Int32} {off : Int} {tgt : Nat} (hd : decode M.2.1 pc = .ok (.tableswitch dflt lo hi offs, len)) (h1 : ¬ x.toInt < lo) (h2 : ¬ hi < x.toInt) (ho : offs[(x.toInt - lo).toNat]? = some off) (ht : (pc : Int) + off = (tgt : Int)) (k : VP X tgt ls st h n c z) : VP X pc ls (.int x :: st) h n c z := by
  obtain ⟨⟨p, e, R, s, m, args, below, meth, cd, D, T, ad, adV, B, cm, sm, Qs⟩, C, hcm, hzm, hE⟩ := X
  change Cx l M _ p R s m args meth cd D T ad adV B at C
  change cm ≤ R.cells at hcm
  change sm ≤ R.slots at hzm
  change En l M Q p e R s m args below meth cd D T ad B cm sm Qs at hE
  intro lsA H locs cells slots hW hS hc hz hl
  change _ ≤ cm at hc
  change _ ≤ sm at hz
  change Wd D T ad B _ _ H at hW
  change va_S (fun q => B ≤ q) s.heap H locs at hS
  change LV lsA M.2.2.1 ad ls at hl
  change W p l e R s m args below meth cd H locs cells slots Qs (F0 m _ lsA (List.map (mv ad) _))
  exact lv_tableIn C.1 C.2.1 hd h1 h2 ho ht (k lsA H locs cells slots hW hS hc hz hl)
theorem VP.iret {X : PX l M d Q} {v : Int32} {ty : FieldType} (hd : decode M.2.1 pc = .ok (.ireturn, 1)) (hr : M.2.2.2 = some ty) (hv : narrow ty (.int v) = .int v) (hq : Q (some (.int v)) h n) : VP X pc ls [.int v] h n c z := by
  obtain ⟨⟨p, e, R, s, m, args, below, meth, cd, D, T, ad, adV, B, cm, sm, Qs⟩, C, hcm, hzm, hE⟩ := X
  change Cx l M _ p R s m args meth cd D T ad adV B at C
  change cm ≤ R.cells at hcm
  change sm ≤ R.slots at hzm
  change En l M Q p e R s m args below meth cd D T ad B cm sm Qs at hE
  intro lsA H locs cells slots hW hS hc hz hl
  change _ ≤ cm at hc
  change _ ≤ sm at hz
  change Wd D T ad B _ _ H at hW
  change va_S (fun q => B ≤ q) s.heap H locs at hS
  change LV lsA M.2.2.1 ad ls at hl
  change W p l e R s m args below meth cd H locs cells slots Qs (F0 m _ lsA (List.map (mv ad) _))
  exact hE pc lsA (some (.int v)) h n H locs cells slots ⟨hd, ty, hr, hv⟩ hq hW hS (by first | omega | (change _ ≤ cm; omega) | (change _ ≤ sm; omega)) (by first | omega | (change _ ≤ cm; omega) | (change _ ≤ sm; omega))
theorem VP.lret {X : PX l M d Q} {v : Int64} (hd : decode M.2.1 pc = .ok (.lreturn, 1)) (hr : M.2.2.2 = some .long) (hq : Q (some (.long v)) h n) : VP X pc ls [.long v] h n c z := by
  obtain ⟨⟨p, e, R, s, m, args, below, meth, cd, D, T, ad, adV, B, cm, sm, Qs⟩, C, hcm, hzm, hE⟩ := X
  change Cx l M _ p R s m args meth cd D T ad adV B at C
  change cm ≤ R.cells at hcm
  change sm ≤ R.slots at hzm
  change En l M Q p e R s m args below meth cd D T ad B cm sm Qs at hE
  intro lsA H locs cells slots hW hS hc hz hl
  change _ ≤ cm at hc
  change _ ≤ sm at hz
  change Wd D T ad B _ _ H at hW
  change va_S (fun q => B ≤ q) s.heap H locs at hS
  change LV lsA M.2.2.1 ad ls at hl
  change W p l e R s m args below meth cd H locs cells slots Qs (F0 m _ lsA (List.map (mv ad) _))
  exact hE pc lsA (some (.long v)) h n H locs cells slots ⟨hd, hr⟩ hq hW hS (by first | omega | (change _ ≤ cm; omega) | (change _ ≤ sm; omega)) (by first | omega | (change _ ≤ cm; omega) | (change _ ≤ sm; omega))
theorem VP.aret {X : PX l M d Q} {v : Nat} {C0 : String} (hd : decode M.2.1 pc = .ok (.areturn, 1)) (hr : M.2.2.2 = some (.object C0)) (hq : Q (some (.ref v)) h n) : VP X pc ls [.ref v] h n c z := by
  obtain ⟨⟨p, e, R, s, m, args, below, meth, cd, D, T, ad, adV, B, cm, sm, Qs⟩, C, hcm, hzm, hE⟩ := X
  change Cx l M _ p R s m args meth cd D T ad adV B at C
  change cm ≤ R.cells at hcm
  change sm ≤ R.slots at hzm
  change En l M Q p e R s m args below meth cd D T ad B cm sm Qs at hE
  intro lsA H locs cells slots hW hS hc hz hl
  change _ ≤ cm at hc
  change _ ≤ sm at hz
  change Wd D T ad B _ _ H at hW
  change va_S (fun q => B ≤ q) s.heap H locs at hS
  change LV lsA M.2.2.1 ad ls at hl
  change W p l e R s m args below meth cd H locs cells slots Qs (F0 m _ lsA (List.map (mv ad) _))
  exact hE pc lsA (some (.ref v)) h n H locs cells slots ⟨hd, C0, hr⟩ hq hW hS (by first | omega | (change _ ≤ cm; omega) | (change _ ≤ sm; omega)) (by first | omega | (change _ ≤ cm; omega) | (change _ ≤ sm; omega))
theorem VP.vret {X : PX l M d Q} (hd : decode M.2.1 pc = .ok (.return_, 1)) (hr : M.2.2.2 = none) (hq : Q none h n) : VP X pc ls [] h n c z := by
  obtain ⟨⟨p, e, R, s, m, args, below, meth, cd, D, T, ad, adV, B, cm, sm, Qs⟩, C, hcm, hzm, hE⟩ := X
  change Cx l M _ p R s m args meth cd D T ad adV B at C
  change cm ≤ R.cells at hcm
  change sm ≤ R.slots at hzm
  change En l M Q p e R s m args below meth cd D T ad B cm sm Qs at hE
  intro lsA H locs cells slots hW hS hc hz hl
  change _ ≤ cm at hc
  change _ ≤ sm at hz
  change Wd D T ad B _ _ H at hW
  change va_S (fun q => B ≤ q) s.heap H locs at hS
  change LV lsA M.2.2.1 ad ls at hl
  change W p l e R s m args below meth cd H locs cells slots Qs (F0 m _ lsA (List.map (mv ad) _))
  exact hE pc lsA none h n H locs cells slots ⟨hd, hr⟩ hq hW hS (by first | omega | (change _ ≤ cm; omega) | (change _ ≤ sm; omega)) (by first | omega | (change _ ≤ cm; omega) | (change _ ≤ sm; omega))
theorem VP.topi {X : PX l M d Q} {x : Int32} (k : ∀ y : Int32, y = x → VP X pc ls (.int y :: st) h n c z) : VP X pc ls (.int x :: st) h n c z := k x rfl
end PR
section PH
variable {l : Launch} {M : MT} {d pc : Nat} {ls : List (Option Value)} {st : List Value} {h : MH} {n c z : Nat} {Q : Option Value → MH → Nat → Prop}
theorem VP.getf {X : PX l M d Q} {idx ci k a : Nat} {fs : List Value} {v : Value} (hd : decode M.2.1 pc = .ok (.getfield idx, 3)) (hf : FL M.1.cls idx ci k) (ha : h a = some (.inr (ci, fs))) (hv : fs[k]? = some v) (kk : VP X (pc + 3) ls (v :: st) h n c z) : VP X pc ls (.ref a :: st) h n c z := by
  obtain ⟨⟨p, e, R, s, m, args, below, meth, cd, D, T, ad, adV, B, cm, sm, Qs⟩, C, hcm, hzm, hE⟩ := X
  change Cx l M _ p R s m args meth cd D T ad adV B at C
  change cm ≤ R.cells at hcm
  change sm ≤ R.slots at hzm
  change En l M Q p e R s m args below meth cd D T ad B cm sm Qs at hE
  intro lsA H locs cells slots hW hS hc hz hl
  change _ ≤ cm at hc
  change _ ≤ sm at hz
  change Wd D T ad B _ _ H at hW
  change va_S (fun q => B ≤ q) s.heap H locs at hS
  change LV lsA M.2.2.1 ad ls at hl
  change W p l e R s m args below meth cd H locs cells slots Qs (F0 m _ lsA (List.map (mv ad) _))
  obtain ⟨Cn, Tt, N, ty, hcl, hck, hkN, hlk⟩ := hf
  refine va_get (q0 := 0) (D := D) (ws := [(ad a, me T ad (.inr (ci, fs)))]) (tys := tyl T) (fs := fs.map (mv ad)) C.1 C.2.1 C.2.2.2.2.1 hck.1 C.2.2.2.1 C.2.2.2.2.2.1.1 (hW.one ha) rfl hcl k hkN (C.2.2.2.2.1 _ hlk) (fun x q => q) (v := mv ad v) ?_ hd (kk lsA H locs cells slots hW hS hc hz hl)
  rw [List.getElem?_map, hv]; rfl
theorem VP.putf {X : PX l M d Q} {idx ci k a : Nat} {fs : List Value} {v : Value} {t : FieldType} (hd : decode M.2.1 pc = .ok (.putfield idx, 3)) (hf : FP M.1.cls idx ci k t) (ha : h a = some (.inr (ci, fs))) (hl0 : k < fs.length) (hn : ∀ ad : Nat → Nat, narrow t (mv ad v) = mv ad v ∧ fits t (mv ad v) = true)
    (kk : VP X (pc + 3) ls st (hset h a (.inr (ci, fs.set k v))) n c z) : VP X pc ls (v :: .ref a :: st) h n c z := by
  obtain ⟨⟨p, e, R, s, m, args, below, meth, cd, D, T, ad, adV, B, cm, sm, Qs⟩, C, hcm, hzm, hE⟩ := X
  change Cx l M _ p R s m args meth cd D T ad adV B at C
  change cm ≤ R.cells at hcm
  change sm ≤ R.slots at hzm
  change En l M Q p e R s m args below meth cd D T ad B cm sm Qs at hE
  intro lsA H locs cells slots hW hS hc hz hl
  change _ ≤ cm at hc
  change _ ≤ sm at hz
  change Wd D T ad B _ _ H at hW
  change va_S (fun q => B ≤ q) s.heap H locs at hS
  change LV lsA M.2.2.1 ad ls at hl
  change W p l e R s m args below meth cd H locs cells slots Qs (F0 m _ lsA (List.map (mv ad) _))
  exact m_putW C.1 C.2.1 C.2.2.2.2.1 C.2.2.2.1 C.2.2.2.2.2.1 hW C.2.2.2.2.2.2.2.1 hS (Or.inl hf) ha hl0 (hn ad).1 (hn ad).2 hd (fun H1 locs1 hW1 hS1 => kk lsA H1 locs1 cells slots hW1 hS1 hc hz hl)
theorem VP.putF {X : PX l M d Q} {idx ci k a : Nat} {fs : List Value} {v : Value} {t : FieldType} (hd : decode M.2.1 pc = .ok (.putfield idx, 3)) (hi : M.1.name = "<init>") (hf : FF M.1.cls idx ci k t) (ha : h a = some (.inr (ci, fs))) (hl0 : k < fs.length) (hn : ∀ ad : Nat → Nat, narrow t (mv ad v) = mv ad v ∧ fits t (mv ad v) = true)
    (kk : VP X (pc + 3) ls st (hset h a (.inr (ci, fs.set k v))) n c z) : VP X pc ls (v :: .ref a :: st) h n c z := by
  obtain ⟨⟨p, e, R, s, m, args, below, meth, cd, D, T, ad, adV, B, cm, sm, Qs⟩, C, hcm, hzm, hE⟩ := X
  change Cx l M _ p R s m args meth cd D T ad adV B at C
  change cm ≤ R.cells at hcm
  change sm ≤ R.slots at hzm
  change En l M Q p e R s m args below meth cd D T ad B cm sm Qs at hE
  intro lsA H locs cells slots hW hS hc hz hl
  change _ ≤ cm at hc
  change _ ≤ sm at hz
  change Wd D T ad B _ _ H at hW
  change va_S (fun q => B ≤ q) s.heap H locs at hS
  change LV lsA M.2.2.1 ad ls at hl
  change W p l e R s m args below meth cd H locs cells slots Qs (F0 m _ lsA (List.map (mv ad) _))
  exact m_putW C.1 C.2.1 C.2.2.2.2.1 C.2.2.2.1 C.2.2.2.2.2.1 hW C.2.2.2.2.2.2.2.1 hS (Or.inr ⟨hf, C.2.2.2.2.2.2.2.2.2.2.2.1 hi⟩) ha hl0 (hn ad).1 (hn ad).2 hd (fun H1 locs1 hW1 hS1 => kk lsA H1 locs1 cells slots hW1 hS1 hc hz hl)
theorem VP.iald {X : PX l M d Q} {a N : Nat} {f : Nat → Int32} {i : Int32} (hd : decode M.2.1 pc = .ok (.iaload, 1)) (ha : h a = some (.inl (0, N, .inl f))) (hin : vp_in i N) (kk : VP X (pc + 1) ls (.int (f i.toNatClampNeg) :: st) h n c z) : VP X pc ls (.int i :: .ref a :: st) h n c z := by
  obtain ⟨⟨p, e, R, s, m, args, below, meth, cd, D, T, ad, adV, B, cm, sm, Qs⟩, C, hcm, hzm, hE⟩ := X
  change Cx l M _ p R s m args meth cd D T ad adV B at C
  change cm ≤ R.cells at hcm
  change sm ≤ R.slots at hzm
  change En l M Q p e R s m args below meth cd D T ad B cm sm Qs at hE
  intro lsA H locs cells slots hW hS hc hz hl
  change _ ≤ cm at hc
  change _ ≤ sm at hz
  change Wd D T ad B _ _ H at hW
  change va_S (fun q => B ≤ q) s.heap H locs at hS
  change LV lsA M.2.2.1 ad ls at hl
  change W p l e R s m args below meth cd H locs cells slots Qs (F0 m _ lsA (List.map (mv ad) _))
  exact va_iald (D := D) (ws := [(ad a, .inl (T 0, N, .inl f))]) (tys := tyl T) C.1 C.2.1 C.2.2.2.2.2.1.1 (hW.one ha) 0 0 rfl rfl hin hd (kk lsA H locs cells slots hW hS hc hz hl)
theorem VP.zald {X : PX l M d Q} {a N : Nat} {f : Nat → Int32} {i : Int32} (hd : decode M.2.1 pc = .ok (.baload, 1)) (ha : h a = some (.inl (1, N, .inl f))) (hin : vp_in i N) (kk : VP X (pc + 1) ls (.int (f i.toNatClampNeg) :: st) h n c z) : VP X pc ls (.int i :: .ref a :: st) h n c z := by
  obtain ⟨⟨p, e, R, s, m, args, below, meth, cd, D, T, ad, adV, B, cm, sm, Qs⟩, C, hcm, hzm, hE⟩ := X
  change Cx l M _ p R s m args meth cd D T ad adV B at C
  change cm ≤ R.cells at hcm
  change sm ≤ R.slots at hzm
  change En l M Q p e R s m args below meth cd D T ad B cm sm Qs at hE
  intro lsA H locs cells slots hW hS hc hz hl
  change _ ≤ cm at hc
  change _ ≤ sm at hz
  change Wd D T ad B _ _ H at hW
  change va_S (fun q => B ≤ q) s.heap H locs at hS
  change LV lsA M.2.2.1 ad ls at hl
  change W p l e R s m args below meth cd H locs cells slots Qs (F0 m _ lsA (List.map (mv ad) _))
  exact va_zald (D := D) (ws := [(ad a, .inl (T 1, N, .inl f))]) (tys := tyl T) C.1 C.2.1 C.2.2.2.2.2.1.1 (hW.one ha) 0 1 rfl rfl hin hd (kk lsA H locs cells slots hW hS hc hz hl)
theorem VP.lald {X : PX l M d Q} {a N : Nat} {f : Nat → Int64} {i : Int32} (hd : decode M.2.1 pc = .ok (.laload, 1)) (ha : h a = some (.inl (2, N, .inr (.inl f)))) (hin : vp_in i N) (kk : VP X (pc + 1) ls (.long (f i.toNatClampNeg) :: st) h n c z) : VP X pc ls (.int i :: .ref a :: st) h n c z := by
  obtain ⟨⟨p, e, R, s, m, args, below, meth, cd, D, T, ad, adV, B, cm, sm, Qs⟩, C, hcm, hzm, hE⟩ := X
  change Cx l M _ p R s m args meth cd D T ad adV B at C
  change cm ≤ R.cells at hcm
  change sm ≤ R.slots at hzm
  change En l M Q p e R s m args below meth cd D T ad B cm sm Qs at hE
  intro lsA H locs cells slots hW hS hc hz hl
  change _ ≤ cm at hc
  change _ ≤ sm at hz
  change Wd D T ad B _ _ H at hW
  change va_S (fun q => B ≤ q) s.heap H locs at hS
  change LV lsA M.2.2.1 ad ls at hl
  change W p l e R s m args below meth cd H locs cells slots Qs (F0 m _ lsA (List.map (mv ad) _))
  exact va_lald (D := D) (ws := [(ad a, .inl (T 2, N, .inr (.inl f)))]) (tys := tyl T) C.1 C.2.1 C.2.2.2.2.2.1.1 (hW.one ha) 0 2 rfl rfl hin hd (kk lsA H locs cells slots hW hS hc hz hl)
theorem VP.aald {X : PX l M d Q} {a N t q : Nat} {f : Nat → Option Nat} {i : Int32} (hd : decode M.2.1 pc = .ok (.aaload, 1)) (ht : t = 3 ∨ t = 4) (ha : h a = some (.inl (t, N, .inr (.inr (.inr (.inr f)))))) (hin : vp_in i N) (hq : f i.toNatClampNeg = some q) (kk : VP X (pc + 1) ls (.ref q :: st) h n c z) : VP X pc ls (.int i :: .ref a :: st) h n c z := by
  obtain ⟨⟨p, e, R, s, m, args, below, meth, cd, D, T, ad, adV, B, cm, sm, Qs⟩, C, hcm, hzm, hE⟩ := X
  change Cx l M _ p R s m args meth cd D T ad adV B at C
  change cm ≤ R.cells at hcm
  change sm ≤ R.slots at hzm
  change En l M Q p e R s m args below meth cd D T ad B cm sm Qs at hE
  intro lsA H locs cells slots hW hS hc hz hl
  change _ ≤ cm at hc
  change _ ≤ sm at hz
  change Wd D T ad B _ _ H at hW
  change va_S (fun q => B ≤ q) s.heap H locs at hS
  change LV lsA M.2.2.1 ad ls at hl
  change W p l e R s m args below meth cd H locs cells slots Qs (F0 m _ lsA (List.map (mv ad) _))
  have k1 := kk lsA H locs cells slots hW hS hc hz hl
  have e0 : va_rf ((fun j => (f j).map ad) i.toNatClampNeg) = .ref (ad q) := by
    show va_rf ((f i.toNatClampNeg).map ad) = _
    rw [hq]; rfl
  rcases ht with rfl | rfl
  · refine va_aldq (D := D) (ws := [(ad a, .inl (T 3, N, .inr (.inr (.inr (.inr (fun j => (f j).map ad))))))]) (tys := tyl T) C.1 C.2.1 C.2.2.2.2.2.1.1 (hW.one ha) 0 3 rfl rfl hin hd ?_
    rw [e0]; exact k1
  · refine va_aldq (D := D) (ws := [(ad a, .inl (T 4, N, .inr (.inr (.inr (.inr (fun j => (f j).map ad))))))]) (tys := tyl T) C.1 C.2.1 C.2.2.2.2.2.1.1 (hW.one ha) 0 4 rfl rfl hin hd ?_
    rw [e0]; exact k1
theorem VP.alen {X : PX l M d Q} {a N t : Nat} {v : Int32} {y : (Nat → Int32) ⊕ (Nat → Int64) ⊕ (Nat → UInt32) ⊕ (Nat → UInt64) ⊕ (Nat → Option Nat)} (hd : decode M.2.1 pc = .ok (.arraylength, 1)) (ha : h a = some (.inl (t, N, y))) (ht : t < 5) (hv : Int32.ofNat N = v) (kk : VP X (pc + 1) ls (.int v :: st) h n c z) : VP X pc ls (.ref a :: st) h n c z := by
  obtain ⟨⟨p, e, R, s, m, args, below, meth, cd, D, T, ad, adV, B, cm, sm, Qs⟩, C, hcm, hzm, hE⟩ := X
  change Cx l M _ p R s m args meth cd D T ad adV B at C
  change cm ≤ R.cells at hcm
  change sm ≤ R.slots at hzm
  change En l M Q p e R s m args below meth cd D T ad B cm sm Qs at hE
  intro lsA H locs cells slots hW hS hc hz hl
  change _ ≤ cm at hc
  change _ ≤ sm at hz
  change Wd D T ad B _ _ H at hW
  change va_S (fun q => B ≤ q) s.heap H locs at hS
  change LV lsA M.2.2.1 ad ls at hl
  change W p l e R s m args below meth cd H locs cells slots Qs (F0 m _ lsA (List.map (mv ad) _))
  have k1 := kk lsA H locs cells slots hW hS hc hz hl
  obtain ⟨x, hx1, hx2⟩ : ∃ x : vp_A, x.1 = N ∧ me T ad (.inl (t, N, y)) = .inl (T t, x) := by
    rcases y with f | f | f | f | f <;> exact ⟨_, rfl, rfl⟩
  have hP := hW.one ha
  rw [hx2] at hP
  obtain ⟨ty, hty⟩ : ∃ ty, (tyl T)[t]? = some (T t, ty) := by
    rcases (show t = 0 ∨ t = 1 ∨ t = 2 ∨ t = 3 ∨ t = 4 by first | omega | (change _ ≤ cm; omega) | (change _ ≤ sm; omega)) with rfl | rfl | rfl | rfl | rfl <;> exact ⟨_, rfl⟩
  exact va_alen (D := D) (ws := [(ad a, .inl (T t, x))]) (tys := tyl T) C.1 C.2.1 C.2.2.2.2.2.1.1 hP 0 t rfl hty (by rw [hx1]; exact hv) hd k1
end PH
section PS
variable {l : Launch} {M : MT} {d pc : Nat} {ls : List (Option Value)} {st : List Value} {h : MH} {n c z : Nat} {Q : Option Value → MH → Nat → Prop}
theorem VP.iast {X : PX l M d Q} {a N : Nat} {f : Nat → Int32} {i x : Int32} (hd : decode M.2.1 pc = .ok (.iastore, 1)) (ha : h a = some (.inl (0, N, .inl f))) (hin : vp_in i N) (kk : VP X (pc + 1) ls st (hset h a (.inl (0, N, .inl (upd f i.toNatClampNeg x)))) n c z) : VP X pc ls (.int x :: .int i :: .ref a :: st) h n c z := by
  obtain ⟨⟨p, e, R, s, m, args, below, meth, cd, D, T, ad, adV, B, cm, sm, Qs⟩, C, hcm, hzm, hE⟩ := X
  change Cx l M _ p R s m args meth cd D T ad adV B at C
  change cm ≤ R.cells at hcm
  change sm ≤ R.slots at hzm
  change En l M Q p e R s m args below meth cd D T ad B cm sm Qs at hE
  intro lsA H locs cells slots hW hS hc hz hl
  change _ ≤ cm at hc
  change _ ≤ sm at hz
  change Wd D T ad B _ _ H at hW
  change va_S (fun q => B ≤ q) s.heap H locs at hS
  change LV lsA M.2.2.1 ad ls at hl
  change W p l e R s m args below meth cd H locs cells slots Qs (F0 m _ lsA (List.map (mv ad) _))
  have had := C.2.2.2.2.2.2.2.1
  refine W.iast C.1 C.2.1 (hW.2.2 a _ ha).2 ((C.2.2.2.2.2.1.1.2 0 _ rfl).1 N (fun j => .int (f j))) (fun q => by cases q) (by show ¬ (i < 0 ∨ (arrV _ _ _).slots.size ≤ _); rw [arrV_size]; exact hin) rfl rfl hd fun H1 e1 z1 oq => ?_
  refine kk lsA H1 _ cells slots (hW.set had ha ?_ z1 oq) (hS.put z1 oq (hW.lt had ha)) hc hz hl
  show H1[ad a]? = some (vp_cell _ _)
  rw [e1]
  show some ((vp_cell (T 0) (N, .inl f)).setSlot _ _) = some (vp_cell (T 0) _)
  rw [vp_cell_i, vp_cell_i, arrV_store]
  congr 2
  funext q
  by_cases hq : q = i.toNatClampNeg
  · subst hq
    simp [updV, upd]
  · simp [updV, upd, hq]
theorem VP.zast {X : PX l M d Q} {a N : Nat} {f : Nat → Int32} {i x : Int32} (hd : decode M.2.1 pc = .ok (.bastore, 1)) (ha : h a = some (.inl (1, N, .inl f))) (hin : vp_in i N) (hx : narrow .boolean (.int x) = .int x) (kk : VP X (pc + 1) ls st (hset h a (.inl (1, N, .inl (upd f i.toNatClampNeg x)))) n c z) : VP X pc ls (.int x :: .int i :: .ref a :: st) h n c z := by
  obtain ⟨⟨p, e, R, s, m, args, below, meth, cd, D, T, ad, adV, B, cm, sm, Qs⟩, C, hcm, hzm, hE⟩ := X
  change Cx l M _ p R s m args meth cd D T ad adV B at C
  change cm ≤ R.cells at hcm
  change sm ≤ R.slots at hzm
  change En l M Q p e R s m args below meth cd D T ad B cm sm Qs at hE
  intro lsA H locs cells slots hW hS hc hz hl
  change _ ≤ cm at hc
  change _ ≤ sm at hz
  change Wd D T ad B _ _ H at hW
  change va_S (fun q => B ≤ q) s.heap H locs at hS
  change LV lsA M.2.2.1 ad ls at hl
  change W p l e R s m args below meth cd H locs cells slots Qs (F0 m _ lsA (List.map (mv ad) _))
  have had := C.2.2.2.2.2.2.2.1
  refine W.zast C.1 C.2.1 (hW.2.2 a _ ha).2 ((C.2.2.2.2.2.1.1.2 1 _ rfl).1 N (fun j => .int (f j))) (fun q => by cases q) (by show ¬ (i < 0 ∨ (arrV _ _ _).slots.size ≤ _); rw [arrV_size]; exact hin) rfl rfl hd fun H1 e1 z1 oq => ?_
  rw [hx] at e1
  refine kk lsA H1 _ cells slots (hW.set had ha ?_ z1 oq) (hS.put z1 oq (hW.lt had ha)) hc hz hl
  show H1[ad a]? = some (vp_cell _ _)
  rw [e1]
  show some ((vp_cell (T 1) (N, .inl f)).setSlot _ _) = some (vp_cell (T 1) _)
  rw [vp_cell_i, vp_cell_i, arrV_store]
  congr 2
  funext q
  by_cases hq : q = i.toNatClampNeg
  · subst hq
    simp [updV, upd]
  · simp [updV, upd, hq]
theorem VP.last {X : PX l M d Q} {a N : Nat} {f : Nat → Int64} {i : Int32} {x : Int64} (hd : decode M.2.1 pc = .ok (.lastore, 1)) (ha : h a = some (.inl (2, N, .inr (.inl f)))) (hin : vp_in i N) (kk : VP X (pc + 1) ls st (hset h a (.inl (2, N, .inr (.inl (vp_updL f i.toNatClampNeg x))))) n c z) : VP X pc ls (.long x :: .int i :: .ref a :: st) h n c z := by
  obtain ⟨⟨p, e, R, s, m, args, below, meth, cd, D, T, ad, adV, B, cm, sm, Qs⟩, C, hcm, hzm, hE⟩ := X
  change Cx l M _ p R s m args meth cd D T ad adV B at C
  change cm ≤ R.cells at hcm
  change sm ≤ R.slots at hzm
  change En l M Q p e R s m args below meth cd D T ad B cm sm Qs at hE
  intro lsA H locs cells slots hW hS hc hz hl
  change _ ≤ cm at hc
  change _ ≤ sm at hz
  change Wd D T ad B _ _ H at hW
  change va_S (fun q => B ≤ q) s.heap H locs at hS
  change LV lsA M.2.2.1 ad ls at hl
  change W p l e R s m args below meth cd H locs cells slots Qs (F0 m _ lsA (List.map (mv ad) _))
  have had := C.2.2.2.2.2.2.2.1
  refine W.last C.1 C.2.1 (hW.2.2 a _ ha).2 ((C.2.2.2.2.2.1.1.2 2 _ rfl).1 N (fun j => .long (f j))) (fun q => by cases q) (by show ¬ (i < 0 ∨ (arrV _ _ _).slots.size ≤ _); rw [arrV_size]; exact hin) rfl rfl hd fun H1 e1 z1 oq => ?_
  refine kk lsA H1 _ cells slots (hW.set had ha ?_ z1 oq) (hS.put z1 oq (hW.lt had ha)) hc hz hl
  show H1[ad a]? = some (vp_cell _ _)
  rw [e1]
  show some ((vp_cell (T 2) (N, .inr (.inl f))).setSlot _ _) = some (vp_cell (T 2) _)
  rw [vp_cell_l, vp_cell_l, arrV_store]
  congr 2
  funext q
  by_cases hq : q = i.toNatClampNeg
  · subst hq
    simp [updV, vp_updL]
  · simp [updV, vp_updL, hq]
theorem VP.aast {X : PX l M d Q} {a N t ci q : Nat} {f : Nat → Option Nat} {fs : List Value} {i : Int32} (hd : decode M.2.1 pc = .ok (.aastore, 1)) (ht : (t = 3 ∧ ci = 0) ∨ (t = 4 ∧ ci = 3)) (ha : h a = some (.inl (t, N, .inr (.inr (.inr (.inr f)))))) (hq : h q = some (.inr (ci, fs))) (hin : vp_in i N)
    (kk : VP X (pc + 1) ls st (hset h a (.inl (t, N, .inr (.inr (.inr (.inr (va_up f i.toNatClampNeg (some q)))))))) n c z) : VP X pc ls (.ref q :: .int i :: .ref a :: st) h n c z := by
  obtain ⟨⟨p, e, R, s, m, args, below, meth, cd, D, T, ad, adV, B, cm, sm, Qs⟩, C, hcm, hzm, hE⟩ := X
  change Cx l M _ p R s m args meth cd D T ad adV B at C
  change cm ≤ R.cells at hcm
  change sm ≤ R.slots at hzm
  change En l M Q p e R s m args below meth cd D T ad B cm sm Qs at hE
  intro lsA H locs cells slots hW hS hc hz hl
  change _ ≤ cm at hc
  change _ ≤ sm at hz
  change Wd D T ad B _ _ H at hW
  change va_S (fun q => B ≤ q) s.heap H locs at hS
  change LV lsA M.2.2.1 ad ls at hl
  change W p l e R s m args below meth cd H locs cells slots Qs (F0 m _ lsA (List.map (mv ad) _))
  have had := C.2.2.2.2.2.2.2.1
  have hK := C.2.2.2.2.2.1.1
  have hlt : i.toNatClampNeg < N := Nat.not_le.mp fun q => hin (Or.inr q)
  have h0 : ¬ i < 0 := fun q => hin (Or.inl q)
  obtain ⟨r, hr, cellV, g1, g2, g3, -⟩ := (hW.2.2 q _ hq).2
  have hcls := (hK.1 ci r hr).2
  have hra : va_RA s (T t) (.object r.1) := by
    rcases ht with ⟨rfl, rfl⟩ | ⟨rfl, rfl⟩
    · cases hr; exact (hK.2 3 _ rfl).2
    · cases hr; exact (hK.2 4 _ rfl).2
  obtain ⟨kA, comp, k1, k2, k3, -⟩ := hra
  have hcomp : comp = D.1 ci := Option.some.inj (k3.symm.trans hcls.1)
  subst hcomp
  obtain ⟨kC, hkC, -⟩ := hcls.2
  have hcell : H[ad a]? = some (vp_cell (T t) (N, .inr (.inr (.inr (.inr (fun j => (f j).map ad)))))) := (hW.2.2 a _ ha).2
  refine W.aast C.1 C.2.1 hcell (fun q h => by cases h) (fun h => by cases h) k1 k2 rfl hkC ⟨h0, by show _ < (arrV _ _ _).slots.size; rw [arrV_size]; exact hlt⟩ g1 (fun q h => by rw [g3] at h; cases h) (by rw [g2]; exact hkC) (by rw [g2]; exact va_assign hcls) rfl rfl hd fun H1 e1 z1 oq => ?_
  refine kk lsA H1 _ cells slots (hW.set had ha ?_ z1 oq) (hS.put z1 oq (hW.lt had ha)) hc hz hl
  show H1[ad a]? = some (vp_cell _ _)
  rw [e1]
  show some ((vp_cell (T t) _).setSlot _ _) = some (vp_cell (T t) _)
  rw [vp_cell_q, vp_cell_q, arrV_store]
  congr 2
  funext j
  by_cases hj : j = i.toNatClampNeg
  · subst hj
    simp [updV, va_up, va_rf]
  · simp [updV, va_up, hj]
theorem VP.new {X : PX l M d Q} {idx ci N : Nat} {fs : List Value} (hd : decode M.2.1 pc = .ok (.new idx, 3)) (hf : NC M.1.cls idx ci N fs) (hn : n + 1 < 1000000) (kk : VP X (pc + 3) ls (.ref n :: st) (hset h n (.inr (ci, fs))) (n + 1) c z) : VP X pc ls st h n (c + 1) (z + N) := by
  obtain ⟨⟨p, e, R, s, m, args, below, meth, cd, D, T, ad, adV, B, cm, sm, Qs⟩, C, hcm, hzm, hE⟩ := X
  change Cx l M _ p R s m args meth cd D T ad adV B at C
  change cm ≤ R.cells at hcm
  change sm ≤ R.slots at hzm
  change En l M Q p e R s m args below meth cd D T ad B cm sm Qs at hE
  intro lsA H locs cells slots hW hS hc hz hl
  change _ ≤ cm at hc
  change _ ≤ sm at hz
  change Wd D T ad B _ _ H at hW
  change va_S (fun q => B ≤ q) s.heap H locs at hS
  change LV lsA M.2.2.1 ad ls at hl
  change W p l e R s m args below meth cd H locs cells slots Qs (F0 m _ lsA (List.map (mv ad) _))
  have had := C.2.2.2.2.2.2.2.1
  obtain ⟨Cn, Tt, ty, hcl, hck, w1, w2, w3, hdf⟩ := hf
  have hts := C.2.2.2.2.1
  have hKn := C.2.2.2.2.2.1.1.1 ci _ hcl
  refine W.newcK C.1 C.2.1 C.2.2.2.1 (hts _ w1) (hts _ w2) (hts _ w3) rfl hd (by first | omega | (change _ ≤ cm; omega) | (change _ ≤ sm; omega)) (by first | omega | (change _ ≤ cm; omega) | (change _ ≤ sm; omega)) hKn.2.1 rfl fun H1 kC hkC e1 z1 o1 => ?_
  have k1 := kk lsA H1 locs (cells + 1) (slots + N) (hW.put had hn ?_ z1 o1) ⟨Nat.le_trans hS.1 (by first | omega | (change _ ≤ cm; omega) | (change _ ≤ sm; omega)), fun x h1 h2 => (o1 x (Nat.lt_of_lt_of_le h1 hS.1)).trans (hS.2.1 x h1 h2), hS.2.2⟩ (by first | omega | (change _ ≤ cm; omega) | (change _ ≤ sm; omega)) (by first | omega | (change _ ≤ cm; omega) | (change _ ≤ sm; omega)) hl
  · rw [show (Value.ref n :: st).map (mv ad) = .ref H.size :: st.map (mv ad) by rw [← hW.n had]; rfl] at k1
    exact k1
  · rw [hW.n had]
    exact ⟨_, hcl, (u_born ty hts hck.1 hKn hkC e1 hck.2.1).to (fun j hj => hdf ad j hj)⟩
theorem VP.newI {X : PX l M d Q} {v : Int32} {N : Nat} (hd : decode M.2.1 pc = .ok (.newarray .int, 2)) (hw : Cond.arrayClass .int ∈ WG) (hv0 : ¬ v < 0) (hv : v.toNatClampNeg = N) (hN : N ≤ 10000) (hn : n + 1 < 1000000) (kk : VP X (pc + 2) ls (.ref n :: st) (hset h n (.inl (0, N, .inl (fun _ => 0)))) (n + 1) c z) : VP X pc ls (.int v :: st) h n (c + 1) (z + N) := by
  obtain ⟨⟨p, e, R, s, m, args, below, meth, cd, D, T, ad, adV, B, cm, sm, Qs⟩, C, hcm, hzm, hE⟩ := X
  change Cx l M _ p R s m args meth cd D T ad adV B at C
  change cm ≤ R.cells at hcm
  change sm ≤ R.slots at hzm
  change En l M Q p e R s m args below meth cd D T ad B cm sm Qs at hE
  intro lsA H locs cells slots hW hS hc hz hl
  change _ ≤ cm at hc
  change _ ≤ sm at hz
  change Wd D T ad B _ _ H at hW
  change va_S (fun q => B ≤ q) s.heap H locs at hS
  change LV lsA M.2.2.1 ad ls at hl
  change W p l e R s m args below meth cd H locs cells slots Qs (F0 m _ lsA (List.map (mv ad) _))
  have had := C.2.2.2.2.2.2.2.1
  refine va_newaK (atype := .int) C.1 C.2.1 (C.2.2.2.2.1 _ hw) rfl hd rfl hv0 hv (by show N * 4 ≤ _; omega) (by first | omega | (change _ ≤ cm; omega) | (change _ ≤ sm; omega)) (by first | omega | (change _ ≤ cm; omega) | (change _ ≤ sm; omega)) rfl fun H1 cA e1 z1 o1 hAr hNm => ?_
  have hcA : cA = T 0 := by
    have h2 : s.vm.findClass ("[" ++ (FieldType.int).toString) = some (T 0) := (C.2.2.2.2.2.1.1.2 0 _ rfl).2
    exact Option.some.inj (hNm.symm.trans h2)
  subst hcA
  have k1 := kk lsA H1 locs (cells + 1) (slots + N) (hW.put had hn ?_ z1 o1) ⟨Nat.le_trans hS.1 (by first | omega | (change _ ≤ cm; omega) | (change _ ≤ sm; omega)), fun x h1 h2 => (o1 x (Nat.lt_of_lt_of_le h1 hS.1)).trans (hS.2.1 x h1 h2), hS.2.2⟩ (by first | omega | (change _ ≤ cm; omega) | (change _ ≤ sm; omega)) (by first | omega | (change _ ≤ cm; omega) | (change _ ≤ sm; omega)) hl
  · rw [show (Value.ref n :: st).map (mv ad) = .ref H.size :: st.map (mv ad) by rw [← hW.n had]; rfl] at k1
    exact k1
  · rw [hW.n had]
    exact e1
theorem VP.newZ {X : PX l M d Q} {v : Int32} {N : Nat} (hd : decode M.2.1 pc = .ok (.newarray .boolean, 2)) (hw : Cond.arrayClass .boolean ∈ WG) (hv0 : ¬ v < 0) (hv : v.toNatClampNeg = N) (hN : N ≤ 10000) (hn : n + 1 < 1000000) (kk : VP X (pc + 2) ls (.ref n :: st) (hset h n (.inl (1, N, .inl (fun _ => 0)))) (n + 1) c z) : VP X pc ls (.int v :: st) h n (c + 1) (z + N) := by
  obtain ⟨⟨p, e, R, s, m, args, below, meth, cd, D, T, ad, adV, B, cm, sm, Qs⟩, C, hcm, hzm, hE⟩ := X
  change Cx l M _ p R s m args meth cd D T ad adV B at C
  change cm ≤ R.cells at hcm
  change sm ≤ R.slots at hzm
  change En l M Q p e R s m args below meth cd D T ad B cm sm Qs at hE
  intro lsA H locs cells slots hW hS hc hz hl
  change _ ≤ cm at hc
  change _ ≤ sm at hz
  change Wd D T ad B _ _ H at hW
  change va_S (fun q => B ≤ q) s.heap H locs at hS
  change LV lsA M.2.2.1 ad ls at hl
  change W p l e R s m args below meth cd H locs cells slots Qs (F0 m _ lsA (List.map (mv ad) _))
  have had := C.2.2.2.2.2.2.2.1
  refine va_newaK (atype := .boolean) C.1 C.2.1 (C.2.2.2.2.1 _ hw) rfl hd rfl hv0 hv (by show N * 1 ≤ _; omega) (by first | omega | (change _ ≤ cm; omega) | (change _ ≤ sm; omega)) (by first | omega | (change _ ≤ cm; omega) | (change _ ≤ sm; omega)) rfl fun H1 cA e1 z1 o1 hAr hNm => ?_
  have hcA : cA = T 1 := by
    have h2 : s.vm.findClass ("[" ++ (FieldType.boolean).toString) = some (T 1) := (C.2.2.2.2.2.1.1.2 1 _ rfl).2
    exact Option.some.inj (hNm.symm.trans h2)
  subst hcA
  have k1 := kk lsA H1 locs (cells + 1) (slots + N) (hW.put had hn ?_ z1 o1) ⟨Nat.le_trans hS.1 (by first | omega | (change _ ≤ cm; omega) | (change _ ≤ sm; omega)), fun x h1 h2 => (o1 x (Nat.lt_of_lt_of_le h1 hS.1)).trans (hS.2.1 x h1 h2), hS.2.2⟩ (by first | omega | (change _ ≤ cm; omega) | (change _ ≤ sm; omega)) (by first | omega | (change _ ≤ cm; omega) | (change _ ≤ sm; omega)) hl
  · rw [show (Value.ref n :: st).map (mv ad) = .ref H.size :: st.map (mv ad) by rw [← hW.n had]; rfl] at k1
    exact k1
  · rw [hW.n had]
    exact e1
theorem VP.newL {X : PX l M d Q} {v : Int32} {N : Nat} (hd : decode M.2.1 pc = .ok (.newarray .long, 2)) (hw : Cond.arrayClass .long ∈ WG) (hv0 : ¬ v < 0) (hv : v.toNatClampNeg = N) (hN : N ≤ 10000) (hn : n + 1 < 1000000) (kk : VP X (pc + 2) ls (.ref n :: st) (hset h n (.inl (2, N, .inr (.inl (fun _ => 0))))) (n + 1) c z) : VP X pc ls (.int v :: st) h n (c + 1) (z + N) := by
  obtain ⟨⟨p, e, R, s, m, args, below, meth, cd, D, T, ad, adV, B, cm, sm, Qs⟩, C, hcm, hzm, hE⟩ := X
  change Cx l M _ p R s m args meth cd D T ad adV B at C
  change cm ≤ R.cells at hcm
  change sm ≤ R.slots at hzm
  change En l M Q p e R s m args below meth cd D T ad B cm sm Qs at hE
  intro lsA H locs cells slots hW hS hc hz hl
  change _ ≤ cm at hc
  change _ ≤ sm at hz
  change Wd D T ad B _ _ H at hW
  change va_S (fun q => B ≤ q) s.heap H locs at hS
  change LV lsA M.2.2.1 ad ls at hl
  change W p l e R s m args below meth cd H locs cells slots Qs (F0 m _ lsA (List.map (mv ad) _))
  have had := C.2.2.2.2.2.2.2.1
  refine va_newaK (atype := .long) C.1 C.2.1 (C.2.2.2.2.1 _ hw) rfl hd rfl hv0 hv (by show N * 8 ≤ _; omega) (by first | omega | (change _ ≤ cm; omega) | (change _ ≤ sm; omega)) (by first | omega | (change _ ≤ cm; omega) | (change _ ≤ sm; omega)) rfl fun H1 cA e1 z1 o1 hAr hNm => ?_
  have hcA : cA = T 2 := by
    have h2 : s.vm.findClass ("[" ++ (FieldType.long).toString) = some (T 2) := (C.2.2.2.2.2.1.1.2 2 _ rfl).2
    exact Option.some.inj (hNm.symm.trans h2)
  subst hcA
  have k1 := kk lsA H1 locs (cells + 1) (slots + N) (hW.put had hn ?_ z1 o1) ⟨Nat.le_trans hS.1 (by first | omega | (change _ ≤ cm; omega) | (change _ ≤ sm; omega)), fun x h1 h2 => (o1 x (Nat.lt_of_lt_of_le h1 hS.1)).trans (hS.2.1 x h1 h2), hS.2.2⟩ (by first | omega | (change _ ≤ cm; omega) | (change _ ≤ sm; omega)) (by first | omega | (change _ ≤ cm; omega) | (change _ ≤ sm; omega)) hl
  · rw [show (Value.ref n :: st).map (mv ad) = .ref H.size :: st.map (mv ad) by rw [← hW.n had]; rfl] at k1
    exact k1
  · rw [hW.n had]
    exact e1
theorem VP.newQ {X : PX l M d Q} {v : Int32} {idx N t : Nat} {Cn : String} (hd : decode M.2.1 pc = .ok (.anewarray idx, 3)) (hw : Cond.classLink M.1.cls idx Cn ∈ WG) (ht : (t = 3 ∧ Cn = "TwoFlags$Player") ∨ (t = 4 ∧ Cn = "TwoFlags$Shelf")) (hv0 : ¬ v < 0) (hv : v.toNatClampNeg = N) (hN : N ≤ 10000) (hn : n + 1 < 1000000) (kk : VP X (pc + 3) ls (.ref n :: st) (hset h n (.inl (t, N, .inr (.inr (.inr (.inr (fun _ => none))))))) (n + 1) c z) : VP X pc ls (.int v :: st) h n (c + 1) (z + N) := by
  obtain ⟨⟨p, e, R, s, m, args, below, meth, cd, D, T, ad, adV, B, cm, sm, Qs⟩, C, hcm, hzm, hE⟩ := X
  change Cx l M _ p R s m args meth cd D T ad adV B at C
  change cm ≤ R.cells at hcm
  change sm ≤ R.slots at hzm
  change En l M Q p e R s m args below meth cd D T ad B cm sm Qs at hE
  intro lsA H locs cells slots hW hS hc hz hl
  change _ ≤ cm at hc
  change _ ≤ sm at hz
  change Wd D T ad B _ _ H at hW
  change va_S (fun q => B ≤ q) s.heap H locs at hS
  change LV lsA M.2.2.1 ad ls at hl
  change W p l e R s m args below meth cd H locs cells slots Qs (F0 m _ lsA (List.map (mv ad) _))
  have had := C.2.2.2.2.2.2.2.1
  have hAO : va_AO Cn s := by
    rcases ht with ⟨-, rfl⟩ | ⟨-, rfl⟩
    · exact C.2.2.2.2.2.1.2.2.2
    · exact C.2.2.2.2.2.1.2.2.1
  have hRA : va_RA s (T t) (.object Cn) := by
    rcases ht with ⟨rfl, rfl⟩ | ⟨rfl, rfl⟩
    · exact (C.2.2.2.2.2.1.1.2 3 _ rfl).2
    · exact (C.2.2.2.2.2.1.1.2 4 _ rfl).2
  refine W.anew C.1 C.2.1 C.2.2.2.1 (C.2.2.2.2.1 _ hw) (va_AO.use hAO) rfl hd rfl hv0 (by first | omega | (change _ ≤ cm; omega) | (change _ ≤ sm; omega)) (by first | omega | (change _ ≤ cm; omega) | (change _ ≤ sm; omega)) (by first | omega | (change _ ≤ cm; omega) | (change _ ≤ sm; omega)) fun cA kA comp f1 f2 f3 f4 => ?_
  subst hv
  have hcA : cA = T t := by
    obtain ⟨kA2, comp2, -, -, -, h2⟩ := hRA
    exact Option.some.inj (f1.symm.trans h2)
  subst hcA
  generalize hH1 : H.push ({ cls := T t, slots := Array.replicate v.toNatClampNeg .null, vm := .none } : Cell) = H1
  have z1 : H1.size = H.size + 1 := by rw [← hH1, Array.size_push]
  have e1 : H1[H.size]? = some (arrV (T t) v.toNatClampNeg (fun _ => .null)) := by rw [← hH1, Array.getElem?_push_size, ← arrV_new]
  have o1 : ∀ q : Nat, q < H.size → H1[q]? = H[q]? := fun q hq => by rw [← hH1, Array.getElem?_push, if_neg (Nat.ne_of_lt hq)]
  have k1 := kk lsA H1 locs (cells + 1) (slots + v.toNatClampNeg) (hW.put had hn ?_ z1 o1) ⟨Nat.le_trans hS.1 (by first | omega | (change _ ≤ cm; omega) | (change _ ≤ sm; omega)), fun x h1 h2 => (o1 x (Nat.lt_of_lt_of_le h1 hS.1)).trans (hS.2.1 x h1 h2), hS.2.2⟩ (by first | omega | (change _ ≤ cm; omega) | (change _ ≤ sm; omega)) (by first | omega | (change _ ≤ cm; omega) | (change _ ≤ sm; omega)) hl
  · rw [show (Value.ref n :: st).map (mv ad) = .ref H.size :: st.map (mv ad) by rw [← hW.n had]; rfl] at k1
    exact k1
  · rw [hW.n had]
    exact e1
theorem VP.objInit {X : PX l M d Q} {idx a : Nat} (hd : decode M.2.1 pc = .ok (.invokespecial idx, 3)) (hw : Cond.methodLink M.1.cls idx Lib.objectInit ∈ WG) (hw2 : Cond.instanceMethod Lib.objectInit ∈ WG) (hw3 : Cond.code Lib.objectInit ⟨#[0xb1]⟩ 1 none ∈ WG) (hd0 : 1 ≤ d) (hst : (st.map fun v => v.category).sum ≤ 8) (kk : VP X (pc + 3) ls st h n c z) : VP X pc ls (.ref a :: st) h n c z := by
  obtain ⟨⟨p, e, R, s, m, args, below, meth, cd, D, T, ad, adV, B, cm, sm, Qs⟩, C, hcm, hzm, hE⟩ := X
  change Cx l M _ p R s m args meth cd D T ad adV B at C
  change cm ≤ R.cells at hcm
  change sm ≤ R.slots at hzm
  change En l M Q p e R s m args below meth cd D T ad B cm sm Qs at hE
  intro lsA H locs cells slots hW hS hc hz hl
  change _ ≤ cm at hc
  change _ ≤ sm at hz
  change Wd D T ad B _ _ H at hW
  change va_S (fun q => B ≤ q) s.heap H locs at hS
  change LV lsA M.2.2.1 ad ls at hl
  change W p l e R s m args below meth cd H locs cells slots Qs (F0 m _ lsA (List.map (mv ad) _))
  have hts := C.2.2.2.2.1
  have hR1 := C.2.2.2.2.2.2.2.2.2.1
  have hR2 := C.2.2.2.2.2.2.2.2.2.2.1
  have hcat : ((st.map (mv ad)).map fun v => v.category).sum = (st.map fun v => v.category).sum := by
    rw [List.map_map]
    congr 1
    exact List.map_congr_left (fun v _ => mv_cat ad v)
  refine W.objInit C.1 C.2.1 C.2.2.2.1 (hts _ hw) (hts _ hw2) (hts _ hw3) rfl (hl.1.trans C.2.2.1.symm) rfl hd (by first | omega | (change _ ≤ cm; omega) | (change _ ≤ sm; omega)) ?_ (kk lsA H locs cells slots hW hS hc hz hl)
  show 2 * 0 + ((st.map (mv ad)).map fun v => v.category).sum + 12 ≤ _
  rw [hcat]
  omega
theorem VP.mmin {X : PX l M d Q} {idx : Nat} {x y : Int32} (hd : decode M.2.1 pc = .ok (.invokestatic idx, 3)) (hw : Cond.methodLink M.1.cls idx Lib.Math.min.name ∈ WG) (hw2 : Cond.static Lib.Math.min.name ∈ WG) (hw3 : Cond.initialized "java/lang/Math" ∈ WG) (hw4 : Cond.code Lib.Math.min.name Lib.Math.min.code 2 (some .int) ∈ WG) (hd0 : 1 ≤ d) (hst : (st.map fun v => v.category).sum ≤ 8)
    (kk : VP X (pc + 3) ls (.int (if y < x then y else x) :: st) h n c z) : VP X pc ls (.int y :: .int x :: st) h n c z := by
  obtain ⟨⟨p, e, R, s, m, args, below, meth, cd, D, T, ad, adV, B, cm, sm, Qs⟩, C, hcm, hzm, hE⟩ := X
  change Cx l M _ p R s m args meth cd D T ad adV B at C
  change cm ≤ R.cells at hcm
  change sm ≤ R.slots at hzm
  change En l M Q p e R s m args below meth cd D T ad B cm sm Qs at hE
  intro lsA H locs cells slots hW hS hc hz hl
  change _ ≤ cm at hc
  change _ ≤ sm at hz
  change Wd D T ad B _ _ H at hW
  change va_S (fun q => B ≤ q) s.heap H locs at hS
  change LV lsA M.2.2.1 ad ls at hl
  change W p l e R s m args below meth cd H locs cells slots Qs (F0 m _ lsA (List.map (mv ad) _))
  have hts := C.2.2.2.2.1
  have hR1 := C.2.2.2.2.2.2.2.2.2.1
  have hR2 := C.2.2.2.2.2.2.2.2.2.2.1
  have hcat : ((st.map (mv ad)).map fun v => v.category).sum = (st.map fun v => v.category).sum := by
    rw [List.map_map]
    congr 1
    exact List.map_congr_left (fun v _ => mv_cat ad v)
  exact va_mmin C.1 C.2.1 (C.2.2.1.trans hl.1.symm) C.2.2.2.1 (hts _ hw) (hts _ hw2) (hts _ hw3) (hts _ hw4) (by first | omega | (change _ ≤ cm; omega) | (change _ ≤ sm; omega)) (by rw [hcat]; omega) (by first | omega | (change _ ≤ cm; omega) | (change _ ≤ sm; omega)) (by first | omega | (change _ ≤ cm; omega) | (change _ ≤ sm; omega)) hd (kk lsA H locs cells slots hW hS hc hz hl)
theorem VP.mmax {X : PX l M d Q} {idx : Nat} {x y : Int32} (hd : decode M.2.1 pc = .ok (.invokestatic idx, 3)) (hw : Cond.methodLink M.1.cls idx Lib.Math.max.name ∈ WG) (hw2 : Cond.static Lib.Math.max.name ∈ WG) (hw3 : Cond.initialized "java/lang/Math" ∈ WG) (hw4 : Cond.code Lib.Math.max.name Lib.Math.max.code 2 (some .int) ∈ WG) (hd0 : 1 ≤ d) (hst : (st.map fun v => v.category).sum ≤ 8)
    (kk : VP X (pc + 3) ls (.int (if x < y then y else x) :: st) h n c z) : VP X pc ls (.int y :: .int x :: st) h n c z := by
  obtain ⟨⟨p, e, R, s, m, args, below, meth, cd, D, T, ad, adV, B, cm, sm, Qs⟩, C, hcm, hzm, hE⟩ := X
  change Cx l M _ p R s m args meth cd D T ad adV B at C
  change cm ≤ R.cells at hcm
  change sm ≤ R.slots at hzm
  change En l M Q p e R s m args below meth cd D T ad B cm sm Qs at hE
  intro lsA H locs cells slots hW hS hc hz hl
  change _ ≤ cm at hc
  change _ ≤ sm at hz
  change Wd D T ad B _ _ H at hW
  change va_S (fun q => B ≤ q) s.heap H locs at hS
  change LV lsA M.2.2.1 ad ls at hl
  change W p l e R s m args below meth cd H locs cells slots Qs (F0 m _ lsA (List.map (mv ad) _))
  have hts := C.2.2.2.2.1
  have hR1 := C.2.2.2.2.2.2.2.2.2.1
  have hR2 := C.2.2.2.2.2.2.2.2.2.2.1
  have hcat : ((st.map (mv ad)).map fun v => v.category).sum = (st.map fun v => v.category).sum := by
    rw [List.map_map]
    congr 1
    exact List.map_congr_left (fun v _ => mv_cat ad v)
  exact va_mmax C.1 C.2.1 (C.2.2.1.trans hl.1.symm) C.2.2.2.1 (hts _ hw) (hts _ hw2) (hts _ hw3) (hts _ hw4) (by first | omega | (change _ ≤ cm; omega) | (change _ ≤ sm; omega)) (by rw [hcat]; omega) (by first | omega | (change _ ≤ cm; omega) | (change _ ≤ sm; omega)) (by first | omega | (change _ ≤ cm; omega) | (change _ ≤ sm; omega)) hd (kk lsA H locs cells slots hW hS hc hz hl)
theorem VP.copyi {X : PX l M d Q} {idx a0 a1 n0 n1 : Nat} {f g : Nat → Int32} {sp dp k : Int32} (hd : decode M.2.1 pc = .ok (.invokestatic idx, 3)) (hw : Cond.methodLink M.1.cls idx arraycopyName ∈ WG) (hw2 : Cond.native arraycopyName ∈ WG) (hw3 : Cond.static arraycopyName ∈ WG) (hw4 : Cond.initialized "java/lang/System" ∈ WG) (hd0 : 1 ≤ d) (hst : (st.map fun v => v.category).sum ≤ 8)
    (ha0 : h a0 = some (.inl (0, n0, .inl f))) (ha1 : h a1 = some (.inl (0, n1, .inl g))) (h1 : ¬ sp < 0) (h2 : ¬ dp < 0) (h3 : ¬ k < 0) (h4 : sp.toNatClampNeg + k.toNatClampNeg ≤ n0) (h5 : dp.toNatClampNeg + k.toNatClampNeg ≤ n1)
    (kk : VP X (pc + 3) ls st (hset h a1 (.inl (0, n1, .inl (va_cpy f g sp.toNatClampNeg dp.toNatClampNeg k.toNatClampNeg)))) n c z) : VP X pc ls (.int k :: .int dp :: .ref a1 :: .int sp :: .ref a0 :: st) h n c z := by
  obtain ⟨⟨p, e, R, s, m, args, below, meth, cd, D, T, ad, adV, B, cm, sm, Qs⟩, C, hcm, hzm, hE⟩ := X
  change Cx l M _ p R s m args meth cd D T ad adV B at C
  change cm ≤ R.cells at hcm
  change sm ≤ R.slots at hzm
  change En l M Q p e R s m args below meth cd D T ad B cm sm Qs at hE
  intro lsA H locs cells slots hW hS hc hz hl
  change _ ≤ cm at hc
  change _ ≤ sm at hz
  change Wd D T ad B _ _ H at hW
  change va_S (fun q => B ≤ q) s.heap H locs at hS
  change LV lsA M.2.2.1 ad ls at hl
  change W p l e R s m args below meth cd H locs cells slots Qs (F0 m _ lsA (List.map (mv ad) _))
  have had := C.2.2.2.2.2.2.2.1
  have hts := C.2.2.2.2.1
  have hR1 := C.2.2.2.2.2.2.2.2.2.1
  have hR2 := C.2.2.2.2.2.2.2.2.2.2.1
  have hcat : ((st.map (mv ad)).map fun v => v.category).sum = (st.map fun v => v.category).sum := by
    rw [List.map_map]
    congr 1
    exact List.map_congr_left (fun v _ => mv_cat ad v)
  have nn : ∀ z : Int32, ¬ z < 0 → z.toInt = (z.toNatClampNeg : Int) := by
    intro z hz
    have hz0 : (0 : Int) ≤ z.toInt := by
      have := Int32.not_lt.mp hz
      simpa using Int32.le_iff_toInt_le.mp this
    show z.toInt = ((z.toInt.toNat : Nat) : Int)
    omega
  have hBa := hW.lt had ha1
  intro U hU X
  have hc0 : H[ad a0]? = some (vp_cell (T 0) (n0, .inl f)) := (hW.2.2 a0 _ ha0).2
  have hc1 : H[ad a1]? = some (vp_cell (T 0) (n1, .inl g)) := (hW.2.2 a1 _ ha1).2
  obtain ⟨-, k0, hk0, cm0, hkk0⟩ := (C.2.2.2.2.2.1.1.2 0 _ rfl).1 n0 (fun j => .int (f j))
  obtain ⟨vm', X', step⟩ := X.arraycopy C.1 C.2.2.2.1 (hts _ hw) (hts _ hw2) (hts _ hw3) (hts _ hw4) (src := ad a0) (dst := ad a1) (cs := vp_cell (T 0) (n0, .inl f)) (cd := vp_cell (T 0) (n1, .inl g)) (srcPos := sp) (destPos := dp) (n := k) (by rw [hU]; exact hc0) (by rw [hU]; exact hc1)
    (fun _ h => by cases h) (fun _ h => by cases h) (fun h => by cases h) (fun h => by cases h) hk0 hk0 hkk0 hkk0 (by simp [show refKind FieldType.int = false from rfl]) h1 h2 h3
    (by rw [nn sp h1, nn k h3]; show ¬ _ > ((arrV (T 0) n0 (fun j => .int (f j))).slots.size : Int); rw [arrV_size]; omega)
    (by rw [nn dp h2, nn k h3]; show ¬ _ > ((arrV (T 0) n1 (fun j => .int (g j))).slots.size : Int); rw [arrV_size]; omega)
    (fun vm₁ _ i hi => by
      have e : (vp_cell (T 0) (n0, .inl f)).slots.getD (sp.toNatClampNeg + i) .null = .int (f (sp.toNatClampNeg + i)) := by
        show (arrV (T 0) n0 (fun j => .int (f j))).slots.getD _ _ = _
        rw [Array.getD_eq_getD_getElem?, arrV_read _ _ (by first | omega | (change _ ≤ cm; omega) | (change _ ≤ sm; omega))]
        rfl
      refine ⟨?_, ?_⟩
      · rw [e]
        rfl
      · rw [e]
        exact trivial)
    (g := F0 m pc lsA (.int k :: .int dp :: .ref (ad a1) :: .int sp :: .ref (ad a0) :: st.map (mv ad))) rfl (hl.1.trans C.2.2.1.symm) (rest := st.map (mv ad)) rfl (by rw [C.2.1]; exact hd) (by first | omega | (change _ ≤ cm; omega) | (change _ ≤ sm; omega)) (by show 2 * 0 + _ + _ ≤ _; rw [hcat]; exact Nat.le_trans (Nat.add_le_add (show 2 * 0 + _ ≤ 8 by first | omega | (change _ ≤ cm; omega) | (change _ ≤ sm; omega)) (show nativeFrameWords "java/lang/System" "arraycopy" 5 + 11 ≤ 32 by decide)) (by first | omega | (change _ ≤ cm; omega) | (change _ ≤ sm; omega)))
  have e1 : copied (vp_cell (T 0) (n0, .inl f)) (vp_cell (T 0) (n1, .inl g)) sp dp k = vp_cell (T 0) (n1, .inl (va_cpy f g sp.toNatClampNeg dp.toNatClampNeg k.toNatClampNeg)) := va_copied (fun z => .int z) (T 0) (T 0) f g h4
  rw [e1] at X' step
  have hl0 : ad a1 < H.size := (Array.getElem?_eq_some_iff.mp hc1).1
  have hheap : ((U.setVm vm').setCell (ad a1) (vp_cell (T 0) (n1, .inl (va_cpy f g sp.toNatClampNeg dp.toNatClampNeg k.toNatClampNeg)))).heap = H.setIfInBounds (ad a1) (vp_cell (T 0) (n1, .inl (va_cpy f g sp.toNatClampNeg dp.toNatClampNeg k.toNatClampNeg))) := by rw [← hU]; rfl
  have oq : ∀ q : Nat, q ≠ ad a1 → (H.setIfInBounds (ad a1) (vp_cell (T 0) (n1, .inl (va_cpy f g sp.toNatClampNeg dp.toNatClampNeg k.toNatClampNeg))))[q]? = H[q]? := fun q hq => by simp [Array.getElem?_setIfInBounds, Ne.symm hq]
  obtain ⟨t, a1', b1⟩ := kk lsA _ _ cells slots (hW.set had ha1 (show (H.setIfInBounds (ad a1) _)[ad a1]? = some _ by simp [Array.getElem?_setIfInBounds, hl0]) (by simp) oq) ⟨by simp; exact hS.1, fun q g1 g2 => by
      rw [oq q (fun e => g2 (by rw [e]; exact hBa))]
      exact hS.2.1 q g1 g2, fun q hq => by
      rcases List.mem_append.mp hq with h | h
      · exact hS.2.2 q h
      · obtain ⟨z, -, hz⟩ := List.mem_map.mp h
        rw [← hz]
        exact hBa⟩ hc hz hl _ hheap X'
  exact ⟨t, step t a1', b1⟩
end PS
section PC
variable {l : Launch} {M : MT} {d pc : Nat} {ls : List (Option Value)} {st : List Value} {h : MH} {n c z : Nat} {Q : Option Value → MH → Nat → Prop}
theorem VP.callS {X : PX l M (d + 1) Q} {N : MT} {idx k c1 z1 : Nat} {Q1 : Option Value → MH → Nat → Prop} (As : List Value) (hd : decode M.2.1 pc = .ok (.invokestatic idx, 3)) (hk : LkS M.1.cls idx N k) (hA : As.length = k) (hlen : (ls0 As).length ≤ N.2.2.1) (hst : (st.map fun v => v.category).sum ≤ 8)
    (hN : V l N d 0 (lsE N.2.2.1 As) [] h n c1 z1 Q1) (kk : ∀ (r : Option Value) (h1 : MH) (n1 : Nat), Q1 r h1 n1 → VP X (pc + 3) ls (r.toList ++ st) h1 n1 c z) : VP X pc ls (As.reverse ++ st) h n (c + c1) (z + z1) := by
  obtain ⟨⟨p, e, R, s, m, args, below, meth, cd, D, T, ad, adV, B, cm, sm, Qs⟩, C, hcm, hzm, hE⟩ := X
  change Cx l M _ p R s m args meth cd D T ad adV B at C
  change cm ≤ R.cells at hcm
  change sm ≤ R.slots at hzm
  change En l M Q p e R s m args below meth cd D T ad B cm sm Qs at hE
  intro lsA H locs cells slots hW hS hc hz hl
  change _ ≤ cm at hc
  change _ ≤ sm at hz
  change Wd D T ad B _ _ H at hW
  change va_S (fun q => B ≤ q) s.heap H locs at hS
  change LV lsA M.2.2.1 ad ls at hl
  change W p l e R s m args below meth cd H locs cells slots Qs (F0 m _ lsA (List.map (mv ad) _))
  obtain ⟨hx, hb, hml, hown, hts, hK, hX, had, hB, hR1, hR2, hin, hlt⟩ := id C
  obtain ⟨hlk, hstt, hini, hcode, ⟨hd1, hd2, hd3⟩, hnl, hpl⟩ := hk
  have hM : Met l N.1 (WS N) (rmv d c1 z1) (PcV D T ad adV B As h n) (QcV D T ad B Q1) c1 z1 (fun q => B ≤ q) := Met.ofV hlt had hpl hlen hN
  have hpre : PreS s H (PcV D T ad adV B As h n) (As.map (mv ad)) := ⟨PcV.blind, fun U hU hWm => ⟨rfl, hK.warm hWm, by rw [hU]; exact (hX.kept hS.2.1).warm hWm, by rw [hU]; exact hW⟩⟩
  have hrun : va_Run p l e R s m args below meth cd H locs cells slots c1 z1 (F0 m pc lsA ((As.reverse ++ st).map (mv ad))) (st.map (mv ad)) (QcV D T ad B Q1 (As.map (mv ad)).toArray) (fun q => B ≤ q) := by
    have hstk : (F0 m pc lsA ((As.reverse ++ st).map (mv ad))).stack = (As.map (mv ad)).reverse ++ st.map (mv ad) := by
      show (As.reverse ++ st).map (mv ad) = _
      rw [List.map_append, List.map_reverse]
    have hroom : 2 * (F0 m pc lsA ((As.reverse ++ st).map (mv ad))).monitorRoom + ((st.map (mv ad)).map fun v => v.category).sum ≤ 8 := lv_room (by rw [sum_cat]; exact hst)
    have hRR : (rmv d c1 z1).frames + 1 ≤ R.frames ∧ 8 + (N.2.2.1 + 11) + (rmv d c1 z1).locals ≤ R.locals := ⟨hR1, by show 8 + (N.2.2.1 + 11) + 40 * d ≤ _; omega⟩
    rcases hlk with hlk | hlk
    · exact va_runS (Ts := WG) ⟨hx, hb, hml, hown, hts⟩ hM ⟨callB_of k hts (wg_good hcode) rfl rfl rfl (hts _ hini) (hts _ hlk) ⟨hd1, hd2, hd3⟩ hRR, hts _ hstt⟩ hpre rfl (by rw [List.length_map]; exact hA) hl.1 hstk hroom hd ⟨by first | omega | (change _ ≤ cm; omega) | (change _ ≤ sm; omega), by first | omega | (change _ ≤ cm; omega) | (change _ ≤ sm; omega)⟩
    · exact va_runSN (Ts := WG) ⟨hx, hb, hml, hown, hts⟩ hM ⟨va_cnB k hts (wg_good hcode) rfl rfl rfl (hK.2.1 _ hlk) (hts _ hini) ⟨hd1, hd2, hd3⟩ hRR, hts _ hstt, trivial⟩ hpre rfl (by rw [List.length_map]; exact hA) hl.1 hstk hroom hd ⟨by first | omega | (change _ ≤ cm; omega) | (change _ ≤ sm; omega), by first | omega | (change _ ≤ cm; omega) | (change _ ≤ sm; omega)⟩
  refine m_after hrun hS (fun r h1 n1 H1 locs1 hq hW1 hS1 => ?_)
  have k1 := kk r h1 n1 hq lsA H1 locs1 (cells + c1) (slots + z1) hW1 hS1 (by first | omega | (change _ ≤ cm; omega) | (change _ ≤ sm; omega)) (by first | omega | (change _ ≤ cm; omega) | (change _ ≤ sm; omega)) hl
  rw [List.map_append, show (r.toList).map (mv ad) = (r.map (mv ad)).toList by cases r <;> rfl] at k1
  exact k1
theorem VP.callV {X : PX l M (d + 1) Q} {N : MT} {idx k c1 z1 b ci : Nat} {fs : List Value} {Q1 : Option Value → MH → Nat → Prop} (As : List Value) (hd : decode M.2.1 pc = .ok (.invokevirtual idx, 3)) (hk : LkV M.1.cls idx N k) (hA : As.length = k) (hlen : (ls0 (.ref b :: As)).length ≤ N.2.2.1) (hst : (st.map fun v => v.category).sum ≤ 8)
    (hb0 : h b = some (.inr (ci, fs))) (hci : (classes[ci]?).map (fun q => q.1) = some N.1.cls)
    (hN : V l N d 0 (lsE N.2.2.1 (.ref b :: As)) [] h n c1 z1 Q1) (kk : ∀ (r : Option Value) (h1 : MH) (n1 : Nat), Q1 r h1 n1 → VP X (pc + 3) ls (r.toList ++ st) h1 n1 c z) : VP X pc ls (As.reverse ++ .ref b :: st) h n (c + c1) (z + z1) := by
  obtain ⟨⟨p, e, R, s, m, args, below, meth, cd, D, T, ad, adV, B, cm, sm, Qs⟩, C, hcm, hzm, hE⟩ := X
  change Cx l M _ p R s m args meth cd D T ad adV B at C
  change cm ≤ R.cells at hcm
  change sm ≤ R.slots at hzm
  change En l M Q p e R s m args below meth cd D T ad B cm sm Qs at hE
  intro lsA H locs cells slots hW hS hc hz hl
  change _ ≤ cm at hc
  change _ ≤ sm at hz
  change Wd D T ad B _ _ H at hW
  change va_S (fun q => B ≤ q) s.heap H locs at hS
  change LV lsA M.2.2.1 ad ls at hl
  change W p l e R s m args below meth cd H locs cells slots Qs (F0 m _ lsA (List.map (mv ad) _))
  obtain ⟨hx, hb, hml, hown, hts, hK, hX, had, hB, hR1, hR2, hin, hlt⟩ := id C
  obtain ⟨hlk, ⟨hstt, hsel⟩, hini, hcode, ⟨hd1, hd2, hd3⟩, hnl, hpl⟩ := hk
  have hM : Met l N.1 (WS N) (rmv d c1 z1) (PcV D T ad adV B (.ref b :: As) h n) (QcV D T ad B Q1) c1 z1 (fun q => B ≤ q) := Met.ofV hlt had hpl hlen hN
  have hrec : ∃ cellB : Cell, H[ad b]? = some cellB ∧ cellB.vm.isStatics = false ∧ s.vm.findClass N.1.cls = some cellB.cls := by
    obtain ⟨q, h1, cell, g1, g2, g3, -⟩ := (hW.2.2 b _ hb0).2
    rw [h1] at hci
    have hq : q.1 = N.1.cls := Option.some.inj hci
    exact ⟨cell, g1, by rw [g3]; rfl, by rw [g2, ← hq]; exact (hK.1.1 ci q h1).2.1⟩
  have hpre : PreV s H N.1.cls (ad b) (PcV D T ad adV B (.ref b :: As) h n) (As.map (mv ad)) := ⟨PcV.blind, hrec, fun U hU hWm => ⟨rfl, hK.warm hWm, by rw [hU]; exact (hX.kept hS.2.1).warm hWm, by rw [hU]; exact hW⟩⟩
  have hrun : va_Run p l e R s m args below meth cd H locs cells slots c1 z1 (F0 m pc lsA ((As.reverse ++ .ref b :: st).map (mv ad))) (st.map (mv ad)) (QcV D T ad B Q1 (Value.ref (ad b) :: As.map (mv ad)).toArray) (fun q => B ≤ q) := by
    have hstk : (F0 m pc lsA ((As.reverse ++ .ref b :: st).map (mv ad))).stack = (As.map (mv ad)).reverse ++ .ref (ad b) :: st.map (mv ad) := by
      show (As.reverse ++ .ref b :: st).map (mv ad) = _
      rw [List.map_append, List.map_reverse]
      rfl
    have hroom : 2 * (F0 m pc lsA ((As.reverse ++ .ref b :: st).map (mv ad))).monitorRoom + ((st.map (mv ad)).map fun v => v.category).sum ≤ 8 := lv_room (by rw [sum_cat]; exact hst)
    have hRR : (rmv d c1 z1).frames + 1 ≤ R.frames ∧ 8 + (N.2.2.1 + 11) + (rmv d c1 z1).locals ≤ R.locals := ⟨hR1, by show 8 + (N.2.2.1 + 11) + 40 * d ≤ _; omega⟩
    rcases hlk with hlk | hlk
    · exact va_runV (Ts := WG) ⟨hx, hb, hml, hown, hts⟩ hM ⟨callB_of k hts (wg_good hcode) rfl rfl rfl (hts _ hini) (hts _ hlk) ⟨hd1, hd2, hd3⟩ hRR, hts _ hstt, hts _ hsel⟩ hpre rfl (by rw [List.length_map]; exact hA) hl.1 hstk hroom hd ⟨by first | omega | (change _ ≤ cm; omega) | (change _ ≤ sm; omega), by first | omega | (change _ ≤ cm; omega) | (change _ ≤ sm; omega)⟩
    · exact va_runVN (Ts := WG) ⟨hx, hb, hml, hown, hts⟩ hM ⟨va_cnB k hts (wg_good hcode) rfl rfl rfl (hK.2.1 _ hlk) (hts _ hini) ⟨hd1, hd2, hd3⟩ hRR, hts _ hstt, hts _ hsel⟩ hpre rfl (by rw [List.length_map]; exact hA) hl.1 hstk hroom hd ⟨by first | omega | (change _ ≤ cm; omega) | (change _ ≤ sm; omega), by first | omega | (change _ ≤ cm; omega) | (change _ ≤ sm; omega)⟩
  refine m_after hrun hS (fun r h1 n1 H1 locs1 hq hW1 hS1 => ?_)
  have k1 := kk r h1 n1 hq lsA H1 locs1 (cells + c1) (slots + z1) hW1 hS1 (by first | omega | (change _ ≤ cm; omega) | (change _ ≤ sm; omega)) (by first | omega | (change _ ≤ cm; omega) | (change _ ≤ sm; omega)) hl
  rw [List.map_append, show (r.toList).map (mv ad) = (r.map (mv ad)).toList by cases r <;> rfl] at k1
  exact k1
theorem VP.callI {X : PX l M (d + 1) Q} {N : MT} {idx k c1 z1 b : Nat} {Q1 : Option Value → MH → Nat → Prop} (As : List Value) (hd : decode M.2.1 pc = .ok (.invokespecial idx, 3)) (hk : LkI M.1.cls idx N k) (hA : As.length = k) (hlen : (ls0 (.ref b :: As)).length ≤ N.2.2.1) (hst : (st.map fun v => v.category).sum ≤ 8)
    (hN : V l N d 0 (lsE N.2.2.1 (.ref b :: As)) [] h n c1 z1 Q1) (kk : ∀ (r : Option Value) (h1 : MH) (n1 : Nat), Q1 r h1 n1 → VP X (pc + 3) ls (r.toList ++ st) h1 n1 c z) : VP X pc ls (As.reverse ++ .ref b :: st) h n (c + c1) (z + z1) := by
  obtain ⟨⟨p, e, R, s, m, args, below, meth, cd, D, T, ad, adV, B, cm, sm, Qs⟩, C, hcm, hzm, hE⟩ := X
  change Cx l M _ p R s m args meth cd D T ad adV B at C
  change cm ≤ R.cells at hcm
  change sm ≤ R.slots at hzm
  change En l M Q p e R s m args below meth cd D T ad B cm sm Qs at hE
  intro lsA H locs cells slots hW hS hc hz hl
  change _ ≤ cm at hc
  change _ ≤ sm at hz
  change Wd D T ad B _ _ H at hW
  change va_S (fun q => B ≤ q) s.heap H locs at hS
  change LV lsA M.2.2.1 ad ls at hl
  change W p l e R s m args below meth cd H locs cells slots Qs (F0 m _ lsA (List.map (mv ad) _))
  obtain ⟨hx, hb, hml, hown, hts, hK, hX, had, hB, hR1, hR2, hin, hlt⟩ := id C
  obtain ⟨hlk, ⟨hstt, hnm, hret⟩, hini, hcode, ⟨hd1, hd2, hd3⟩, hnl, hpl⟩ := hk
  have hM : Met l N.1 (WS N) (rmv d c1 z1) (PcV D T ad adV B (.ref b :: As) h n) (QcV D T ad B Q1) c1 z1 (fun q => B ≤ q) := Met.ofV hlt had hpl hlen hN
  have hpre : PreS s H (PcV D T ad adV B (.ref b :: As) h n) (.ref (ad b) :: As.map (mv ad)) := ⟨PcV.blind, fun U hU hWm => ⟨rfl, hK.warm hWm, by rw [hU]; exact (hX.kept hS.2.1).warm hWm, by rw [hU]; exact hW⟩⟩
  have hrun : va_Run p l e R s m args below meth cd H locs cells slots c1 z1 (F0 m pc lsA ((As.reverse ++ .ref b :: st).map (mv ad))) (st.map (mv ad)) (QcV D T ad B Q1 (Value.ref (ad b) :: As.map (mv ad)).toArray) (fun q => B ≤ q) := by
    have hstk : (F0 m pc lsA ((As.reverse ++ .ref b :: st).map (mv ad))).stack = (As.map (mv ad)).reverse ++ .ref (ad b) :: st.map (mv ad) := by
      show (As.reverse ++ .ref b :: st).map (mv ad) = _
      rw [List.map_append, List.map_reverse]
      rfl
    have hroom : 2 * (F0 m pc lsA ((As.reverse ++ .ref b :: st).map (mv ad))).monitorRoom + ((st.map (mv ad)).map fun v => v.category).sum ≤ 8 := lv_room (by rw [sum_cat]; exact hst)
    have hRR : (rmv d c1 z1).frames + 1 ≤ R.frames ∧ 8 + (N.2.2.1 + 11) + (rmv d c1 z1).locals ≤ R.locals := ⟨hR1, by show 8 + (N.2.2.1 + 11) + 40 * d ≤ _; omega⟩
    have hws : WS N = Cond.code N.1 N.2.1 N.2.2.1 none :: WG := by rw [WS, hret]
    rcases hlk with hlk | hlk
    · exact va_runI (Ts := WG) (bytes := N.2.1) (maxL := N.2.2.1) ⟨hx, hb, hml, hown, hts⟩ hM ⟨callB_of k hts (wg_good hcode) hws rfl rfl (hts _ hini) (hts _ hlk) ⟨hd1, hd2, hd3⟩ hRR, hnm, hts _ hstt⟩ hpre rfl (by rw [List.length_map]; exact hA) hl.1 hstk hroom hd ⟨by first | omega | (change _ ≤ cm; omega) | (change _ ≤ sm; omega), by first | omega | (change _ ≤ cm; omega) | (change _ ≤ sm; omega)⟩
    · exact va_runIN (Ts := WG) (bytes := N.2.1) (maxL := N.2.2.1) ⟨hx, hb, hml, hown, hts⟩ hM ⟨va_cnB k hts (wg_good hcode) hws rfl rfl (hK.2.1 _ hlk) (hts _ hini) ⟨hd1, hd2, hd3⟩ hRR, hnm, hts _ hstt⟩ hpre rfl (by rw [List.length_map]; exact hA) hl.1 hstk hroom hd ⟨by first | omega | (change _ ≤ cm; omega) | (change _ ≤ sm; omega), by first | omega | (change _ ≤ cm; omega) | (change _ ≤ sm; omega)⟩
  refine m_after hrun hS (fun r h1 n1 H1 locs1 hq hW1 hS1 => ?_)
  have k1 := kk r h1 n1 hq lsA H1 locs1 (cells + c1) (slots + z1) hW1 hS1 (by first | omega | (change _ ≤ cm; omega) | (change _ ≤ sm; omega)) (by first | omega | (change _ ≤ cm; omega) | (change _ ≤ sm; omega)) hl
  rw [List.map_append, show (r.toList).map (mv ad) = (r.map (mv ad)).toList by cases r <;> rfl] at k1
  exact k1
end PC
section PT
variable {l : Launch} {M : MT} {d pc : Nat} {ls : List (Option Value)} {st : List Value} {h : MH} {n c z : Nat} {Q : Option Value → MH → Nat → Prop}
theorem VP.callSv {X : PX l M (d + 1) Q} {N : MT} {idx k : Nat} {v : Int32} {h2 : MH} (As : List Value) (hd : decode M.2.1 pc = .ok (.invokestatic idx, 3)) (hk : LkS M.1.cls idx N k) (hA : As.length = k) (hlen : (ls0 As).length ≤ N.2.2.1) (hst : (st.map fun v => v.category).sum ≤ 8)
    (hN : Sp l N d As h n 0 0 (Pv v h2 n)) (kk : VP X (pc + 3) ls (.int v :: st) h2 n c z) : VP X pc ls (As.reverse ++ st) h n c z :=
  VP.callS (c := c) (z := z) As hd hk hA hlen hst hN (fun r h1 n1 q => by obtain ⟨rfl, rfl, rfl⟩ := q; exact kk)
theorem VP.callSu {X : PX l M (d + 1) Q} {N : MT} {idx k : Nat} {h2 : MH} (As : List Value) (hd : decode M.2.1 pc = .ok (.invokestatic idx, 3)) (hk : LkS M.1.cls idx N k) (hA : As.length = k) (hlen : (ls0 As).length ≤ N.2.2.1) (hst : (st.map fun v => v.category).sum ≤ 8)
    (hN : Sp l N d As h n 0 0 (Pu h2 n)) (kk : VP X (pc + 3) ls st h2 n c z) : VP X pc ls (As.reverse ++ st) h n c z :=
  VP.callS (c := c) (z := z) As hd hk hA hlen hst hN (fun r h1 n1 q => by obtain ⟨rfl, rfl, rfl⟩ := q; exact kk)
theorem VP.callVv {X : PX l M (d + 1) Q} {N : MT} {idx k b ci : Nat} {fs : List Value} {v : Int32} {h2 : MH} (As : List Value) (hd : decode M.2.1 pc = .ok (.invokevirtual idx, 3)) (hk : LkV M.1.cls idx N k) (hA : As.length = k) (hlen : (ls0 (.ref b :: As)).length ≤ N.2.2.1) (hst : (st.map fun v => v.category).sum ≤ 8)
    (hb0 : h b = some (.inr (ci, fs))) (hci : (classes[ci]?).map (fun q => q.1) = some N.1.cls) (hN : Sp l N d (.ref b :: As) h n 0 0 (Pv v h2 n)) (kk : VP X (pc + 3) ls (.int v :: st) h2 n c z) : VP X pc ls (As.reverse ++ .ref b :: st) h n c z :=
  VP.callV (c := c) (z := z) As hd hk hA hlen hst hb0 hci hN (fun r h1 n1 q => by obtain ⟨rfl, rfl, rfl⟩ := q; exact kk)
theorem VP.callVu {X : PX l M (d + 1) Q} {N : MT} {idx k b ci : Nat} {fs : List Value} {h2 : MH} (As : List Value) (hd : decode M.2.1 pc = .ok (.invokevirtual idx, 3)) (hk : LkV M.1.cls idx N k) (hA : As.length = k) (hlen : (ls0 (.ref b :: As)).length ≤ N.2.2.1) (hst : (st.map fun v => v.category).sum ≤ 8)
    (hb0 : h b = some (.inr (ci, fs))) (hci : (classes[ci]?).map (fun q => q.1) = some N.1.cls) (hN : Sp l N d (.ref b :: As) h n 0 0 (Pu h2 n)) (kk : VP X (pc + 3) ls st h2 n c z) : VP X pc ls (As.reverse ++ .ref b :: st) h n c z :=
  VP.callV (c := c) (z := z) As hd hk hA hlen hst hb0 hci hN (fun r h1 n1 q => by obtain ⟨rfl, rfl, rfl⟩ := q; exact kk)
theorem VP.iaddN {X : PX l M d Q} {x y : Nat} (hd : decode M.2.1 pc = .ok (.iadd, 1)) (k : VP X (pc + 1) ls (.int (nI (x + y)) :: st) h n c z) : VP X pc ls (.int (nI y) :: .int (nI x) :: st) h n c z := VP.iadd hd (by rw [nI_add]; exact k)
theorem VP.imulN {X : PX l M d Q} {x y : Nat} (hd : decode M.2.1 pc = .ok (.imul, 1)) (k : VP X (pc + 1) ls (.int (nI (x * y)) :: st) h n c z) : VP X pc ls (.int (nI y) :: .int (nI x) :: st) h n c z := VP.imul hd (by rw [pk_mul]; exact k)
theorem VP.isubN {X : PX l M d Q} {x y : Nat} (hd : decode M.2.1 pc = .ok (.isub, 1)) (hxy : y ≤ x) (k : VP X (pc + 1) ls (.int (nI (x - y)) :: st) h n c z) : VP X pc ls (.int (nI y) :: .int (nI x) :: st) h n c z := VP.isub hd (by rw [pk_sub hxy]; exact k)
theorem VP.idivN {X : PX l M d Q} {x y : Nat} (hd : decode M.2.1 pc = .ok (.idiv, 1)) (hx : x < 2 ^ 31) (hy : 0 < y) (hy2 : y < 2 ^ 31) (k : VP X (pc + 1) ls (.int (nI (x / y)) :: st) h n c z) : VP X pc ls (.int (nI y) :: .int (nI x) :: st) h n c z := VP.idiv hd (nI_ne0 hy hy2) (by rw [pk_div hx hy hy2]; exact k)
theorem VP.iremN {X : PX l M d Q} {x y : Nat} (hd : decode M.2.1 pc = .ok (.irem, 1)) (hx : x < 2 ^ 31) (hy : 0 < y) (hy2 : y < 2 ^ 31) (k : VP X (pc + 1) ls (.int (nI (x % y)) :: st) h n c z) : VP X pc ls (.int (nI y) :: .int (nI x) :: st) h n c z := VP.irem hd (nI_ne0 hy hy2) (by rw [pk_rem hx hy hy2]; exact k)
theorem VP.iincN {X : PX l M d Q} {i x : Nat} (hd : decode M.2.1 pc = .ok (.iinc i 1, 3)) (hx : ls[i]? = some (some (.int (nI x)))) (hi : i < M.2.2.1) (hn : nolong ls = true) (k : VP X (pc + 3) (ls.set i (some (.int (nI (x + 1))))) st h n c z) : VP X pc ls st h n c z := VP.iinc hd hx (nI_1 x) hi hn k
theorem VP.icN {X : PX l M d Q} {i : Nat} (hd : decode M.2.1 pc = .ok (.iconst (i : Int), 1)) (k : VP X (pc + 1) ls (.int (nI i) :: st) h n c z) : VP X pc ls st h n c z := VP.iconst hd (nI_lit i) k
theorem VP.icmp_ltN {X : PX l M d Q} {x y tgt : Nat} {off : Int} (hd : decode M.2.1 pc = .ok (.if_icmp .lt off, 3)) (ht : (pc : Int) + off = (tgt : Int)) (hx : x < 2 ^ 31) (hy : y < 2 ^ 31) (kt : x < y → VP X tgt ls st h n c z) (kf : y ≤ x → VP X (pc + 3) ls st h n c z) : VP X pc ls (.int (nI y) :: .int (nI x) :: st) h n c z :=
  VP.icmp_lt hd ht (fun q => kt ((nI_ltI hx hy).mp q)) (fun q => kf (Nat.le_of_not_lt (fun r => q ((nI_ltI hx hy).mpr r))))
theorem VP.icmp_geN {X : PX l M d Q} {x y tgt : Nat} {off : Int} (hd : decode M.2.1 pc = .ok (.if_icmp .ge off, 3)) (ht : (pc : Int) + off = (tgt : Int)) (hx : x < 2 ^ 31) (hy : y < 2 ^ 31) (kt : y ≤ x → VP X tgt ls st h n c z) (kf : x < y → VP X (pc + 3) ls st h n c z) : VP X pc ls (.int (nI y) :: .int (nI x) :: st) h n c z :=
  VP.icmp_ge hd ht (fun q => kt ((nI_leI hy hx).mp q)) (fun q => kf (Nat.lt_of_not_le (fun r => q ((nI_leI hy hx).mpr r))))
theorem VP.icmp_gtN {X : PX l M d Q} {x y tgt : Nat} {off : Int} (hd : decode M.2.1 pc = .ok (.if_icmp .gt off, 3)) (ht : (pc : Int) + off = (tgt : Int)) (hx : x < 2 ^ 31) (hy : y < 2 ^ 31) (kt : y < x → VP X tgt ls st h n c z) (kf : x ≤ y → VP X (pc + 3) ls st h n c z) : VP X pc ls (.int (nI y) :: .int (nI x) :: st) h n c z :=
  VP.icmp_gt hd ht (fun q => kt ((nI_ltI hy hx).mp q)) (fun q => kf (Nat.le_of_not_lt (fun r => q ((nI_ltI hy hx).mpr r))))
theorem VP.icmp_leN {X : PX l M d Q} {x y tgt : Nat} {off : Int} (hd : decode M.2.1 pc = .ok (.if_icmp .le off, 3)) (ht : (pc : Int) + off = (tgt : Int)) (hx : x < 2 ^ 31) (hy : y < 2 ^ 31) (kt : x ≤ y → VP X tgt ls st h n c z) (kf : y < x → VP X (pc + 3) ls st h n c z) : VP X pc ls (.int (nI y) :: .int (nI x) :: st) h n c z :=
  VP.icmp_le hd ht (fun q => kt ((nI_leI hx hy).mp q)) (fun q => kf (Nat.lt_of_not_le (fun r => q ((nI_leI hx hy).mpr r))))
theorem VP.icmp_eqN {X : PX l M d Q} {x y tgt : Nat} {off : Int} (hd : decode M.2.1 pc = .ok (.if_icmp .eq off, 3)) (ht : (pc : Int) + off = (tgt : Int)) (hx : x < 2 ^ 31) (hy : y < 2 ^ 31) (kt : x = y → VP X tgt ls st h n c z) (kf : x ≠ y → VP X (pc + 3) ls st h n c z) : VP X pc ls (.int (nI y) :: .int (nI x) :: st) h n c z :=
  VP.icmp_eq hd ht (fun q => kt ((nI_eq hx hy).mp q)) (fun q => kf (fun r => q ((nI_eq hx hy).mpr r)))
theorem VP.icmp_neN {X : PX l M d Q} {x y tgt : Nat} {off : Int} (hd : decode M.2.1 pc = .ok (.if_icmp .ne off, 3)) (ht : (pc : Int) + off = (tgt : Int)) (hx : x < 2 ^ 31) (hy : y < 2 ^ 31) (kt : x ≠ y → VP X tgt ls st h n c z) (kf : x = y → VP X (pc + 3) ls st h n c z) : VP X pc ls (.int (nI y) :: .int (nI x) :: st) h n c z :=
  VP.icmp_ne hd ht (fun q => kt (fun r => q ((nI_eq hx hy).mpr r))) (fun q => kf ((nI_eq hx hy).mp q))
theorem VP.if_eqB {X : PX l M d Q} {b : Bool} {tgt : Nat} {off : Int} (hd : decode M.2.1 pc = .ok (.ifCond .eq off, 3)) (ht : (pc : Int) + off = (tgt : Int)) (kt : b = false → VP X tgt ls st h n c z) (kf : b = true → VP X (pc + 3) ls st h n c z) : VP X pc ls (.int (bI b) :: st) h n c z :=
  VP.if_eq hd ht (fun q => kt (by cases b; rfl; exact absurd q (by decide))) (fun q => kf (by cases b; exact absurd rfl q; rfl))
theorem VP.if_neB {X : PX l M d Q} {b : Bool} {tgt : Nat} {off : Int} (hd : decode M.2.1 pc = .ok (.ifCond .ne off, 3)) (ht : (pc : Int) + off = (tgt : Int)) (kt : b = true → VP X tgt ls st h n c z) (kf : b = false → VP X (pc + 3) ls st h n c z) : VP X pc ls (.int (bI b) :: st) h n c z :=
  VP.if_ne hd ht (fun q => kt (by cases b; exact absurd rfl q; rfl)) (fun q => kf (by cases b; rfl; exact absurd q (by decide)))
theorem VP.ialdN {X : PX l M d Q} {a N m : Nat} {f : Nat → Int32} (hd : decode M.2.1 pc = .ok (.iaload, 1)) (ha : h a = some (.inl (0, N, .inl f))) (hm : m < N) (hN : N < 2 ^ 31) (kk : VP X (pc + 1) ls (.int (f m) :: st) h n c z) : VP X pc ls (.int (nI m) :: .ref a :: st) h n c z :=
  VP.iald hd ha (vp_in_nI hm hN) (by rw [nI_clamp (by first | omega | (change _ ≤ cm; omega) | (change _ ≤ sm; omega))]; exact kk)
theorem VP.zaldN {X : PX l M d Q} {a N m : Nat} {f : Nat → Int32} (hd : decode M.2.1 pc = .ok (.baload, 1)) (ha : h a = some (.inl (1, N, .inl f))) (hm : m < N) (hN : N < 2 ^ 31) (kk : VP X (pc + 1) ls (.int (f m) :: st) h n c z) : VP X pc ls (.int (nI m) :: .ref a :: st) h n c z :=
  VP.zald hd ha (vp_in_nI hm hN) (by rw [nI_clamp (by first | omega | (change _ ≤ cm; omega) | (change _ ≤ sm; omega))]; exact kk)
theorem VP.aaldN {X : PX l M d Q} {a N t m q : Nat} {f : Nat → Option Nat} (hd : decode M.2.1 pc = .ok (.aaload, 1)) (ht : t = 3 ∨ t = 4) (ha : h a = some (.inl (t, N, .inr (.inr (.inr (.inr f)))))) (hm : m < N) (hN : N < 2 ^ 31) (hq : f m = some q) (kk : VP X (pc + 1) ls (.ref q :: st) h n c z) : VP X pc ls (.int (nI m) :: .ref a :: st) h n c z :=
  VP.aald hd ht ha (vp_in_nI hm hN) (by rw [nI_clamp (by first | omega | (change _ ≤ cm; omega) | (change _ ≤ sm; omega))]; exact hq) kk
theorem VP.iastN {X : PX l M d Q} {a N m : Nat} {f : Nat → Int32} {x : Int32} (hd : decode M.2.1 pc = .ok (.iastore, 1)) (ha : h a = some (.inl (0, N, .inl f))) (hm : m < N) (hN : N < 2 ^ 31) (kk : VP X (pc + 1) ls st (hset h a (.inl (0, N, .inl (upd f m x)))) n c z) : VP X pc ls (.int x :: .int (nI m) :: .ref a :: st) h n c z :=
  VP.iast hd ha (vp_in_nI hm hN) (by rw [nI_clamp (by first | omega | (change _ ≤ cm; omega) | (change _ ≤ sm; omega))]; exact kk)
theorem VP.zastN {X : PX l M d Q} {a N m : Nat} {f : Nat → Int32} {x : Int32} (hd : decode M.2.1 pc = .ok (.bastore, 1)) (ha : h a = some (.inl (1, N, .inl f))) (hm : m < N) (hN : N < 2 ^ 31) (hx : narrow .boolean (.int x) = .int x) (kk : VP X (pc + 1) ls st (hset h a (.inl (1, N, .inl (upd f m x)))) n c z) : VP X pc ls (.int x :: .int (nI m) :: .ref a :: st) h n c z :=
  VP.zast hd ha (vp_in_nI hm hN) hx (by rw [nI_clamp (by first | omega | (change _ ≤ cm; omega) | (change _ ≤ sm; omega))]; exact kk)
end PT
section PL
variable {l : Launch} {M : MT} {d pc : Nat} {st : List Value} {h : MH} {n c z : Nat} {Q : Option Value → MH → Nat → Prop} {r : List (Option Value)}
theorem VP.ist0 {X : PX l M d Q} {a0 : Option Value} {x : Int32} (hd : decode M.2.1 pc = .ok (.istore_n 0, 1)) (hi : 0 < M.2.2.1) (hn : nolong (a0 :: r) = true) (k : VP X (pc + 1) (some (.int x) :: r) st h n c z) : VP X pc (a0 :: r) (.int x :: st) h n c z := VP.istore_n hd hi hn k
theorem VP.ast0 {X : PX l M d Q} {a0 : Option Value} {x : Nat} (hd : decode M.2.1 pc = .ok (.astore_n 0, 1)) (hi : 0 < M.2.2.1) (hn : nolong (a0 :: r) = true) (k : VP X (pc + 1) (some (.ref x) :: r) st h n c z) : VP X pc (a0 :: r) (.ref x :: st) h n c z := VP.astore_n hd hi hn k
theorem VP.inN0 {X : PX l M d Q} {x : Nat} (hd : decode M.2.1 pc = .ok (.iinc 0 1, 3)) (hi : 0 < M.2.2.1) (hn : nolong (some (.int (nI x)) :: r) = true) (k : VP X (pc + 3) (some (.int (nI (x + 1))) :: r) st h n c z) : VP X pc (some (.int (nI x)) :: r) st h n c z := VP.iincN hd rfl hi hn k
theorem VP.inc0 {X : PX l M d Q} {x v : Int32} {b : Int} (hd : decode M.2.1 pc = .ok (.iinc 0 b, 3)) (hv : x + Int32.ofInt b = v) (hi : 0 < M.2.2.1) (hn : nolong (some (.int x) :: r) = true) (k : VP X (pc + 3) (some (.int v) :: r) st h n c z) : VP X pc (some (.int x) :: r) st h n c z := VP.iinc hd rfl hv hi hn k
theorem VP.ist1 {X : PX l M d Q} {a0 a1 : Option Value} {x : Int32} (hd : decode M.2.1 pc = .ok (.istore_n 1, 1)) (hi : 1 < M.2.2.1) (hn : nolong (a0 :: a1 :: r) = true) (k : VP X (pc + 1) (a0 :: some (.int x) :: r) st h n c z) : VP X pc (a0 :: a1 :: r) (.int x :: st) h n c z := VP.istore_n hd hi hn k
theorem VP.ast1 {X : PX l M d Q} {a0 a1 : Option Value} {x : Nat} (hd : decode M.2.1 pc = .ok (.astore_n 1, 1)) (hi : 1 < M.2.2.1) (hn : nolong (a0 :: a1 :: r) = true) (k : VP X (pc + 1) (a0 :: some (.ref x) :: r) st h n c z) : VP X pc (a0 :: a1 :: r) (.ref x :: st) h n c z := VP.astore_n hd hi hn k
theorem VP.inN1 {X : PX l M d Q} {a0 : Option Value} {x : Nat} (hd : decode M.2.1 pc = .ok (.iinc 1 1, 3)) (hi : 1 < M.2.2.1) (hn : nolong (a0 :: some (.int (nI x)) :: r) = true) (k : VP X (pc + 3) (a0 :: some (.int (nI (x + 1))) :: r) st h n c z) : VP X pc (a0 :: some (.int (nI x)) :: r) st h n c z := VP.iincN hd rfl hi hn k
theorem VP.inc1 {X : PX l M d Q} {a0 : Option Value} {x v : Int32} {b : Int} (hd : decode M.2.1 pc = .ok (.iinc 1 b, 3)) (hv : x + Int32.ofInt b = v) (hi : 1 < M.2.2.1) (hn : nolong (a0 :: some (.int x) :: r) = true) (k : VP X (pc + 3) (a0 :: some (.int v) :: r) st h n c z) : VP X pc (a0 :: some (.int x) :: r) st h n c z := VP.iinc hd rfl hv hi hn k
theorem VP.ist2 {X : PX l M d Q} {a0 a1 a2 : Option Value} {x : Int32} (hd : decode M.2.1 pc = .ok (.istore_n 2, 1)) (hi : 2 < M.2.2.1) (hn : nolong (a0 :: a1 :: a2 :: r) = true) (k : VP X (pc + 1) (a0 :: a1 :: some (.int x) :: r) st h n c z) : VP X pc (a0 :: a1 :: a2 :: r) (.int x :: st) h n c z := VP.istore_n hd hi hn k
theorem VP.ast2 {X : PX l M d Q} {a0 a1 a2 : Option Value} {x : Nat} (hd : decode M.2.1 pc = .ok (.astore_n 2, 1)) (hi : 2 < M.2.2.1) (hn : nolong (a0 :: a1 :: a2 :: r) = true) (k : VP X (pc + 1) (a0 :: a1 :: some (.ref x) :: r) st h n c z) : VP X pc (a0 :: a1 :: a2 :: r) (.ref x :: st) h n c z := VP.astore_n hd hi hn k
theorem VP.inN2 {X : PX l M d Q} {a0 a1 : Option Value} {x : Nat} (hd : decode M.2.1 pc = .ok (.iinc 2 1, 3)) (hi : 2 < M.2.2.1) (hn : nolong (a0 :: a1 :: some (.int (nI x)) :: r) = true) (k : VP X (pc + 3) (a0 :: a1 :: some (.int (nI (x + 1))) :: r) st h n c z) : VP X pc (a0 :: a1 :: some (.int (nI x)) :: r) st h n c z := VP.iincN hd rfl hi hn k
theorem VP.inc2 {X : PX l M d Q} {a0 a1 : Option Value} {x v : Int32} {b : Int} (hd : decode M.2.1 pc = .ok (.iinc 2 b, 3)) (hv : x + Int32.ofInt b = v) (hi : 2 < M.2.2.1) (hn : nolong (a0 :: a1 :: some (.int x) :: r) = true) (k : VP X (pc + 3) (a0 :: a1 :: some (.int v) :: r) st h n c z) : VP X pc (a0 :: a1 :: some (.int x) :: r) st h n c z := VP.iinc hd rfl hv hi hn k
theorem VP.ist3 {X : PX l M d Q} {a0 a1 a2 a3 : Option Value} {x : Int32} (hd : decode M.2.1 pc = .ok (.istore_n 3, 1)) (hi : 3 < M.2.2.1) (hn : nolong (a0 :: a1 :: a2 :: a3 :: r) = true) (k : VP X (pc + 1) (a0 :: a1 :: a2 :: some (.int x) :: r) st h n c z) : VP X pc (a0 :: a1 :: a2 :: a3 :: r) (.int x :: st) h n c z := VP.istore_n hd hi hn k
theorem VP.ast3 {X : PX l M d Q} {a0 a1 a2 a3 : Option Value} {x : Nat} (hd : decode M.2.1 pc = .ok (.astore_n 3, 1)) (hi : 3 < M.2.2.1) (hn : nolong (a0 :: a1 :: a2 :: a3 :: r) = true) (k : VP X (pc + 1) (a0 :: a1 :: a2 :: some (.ref x) :: r) st h n c z) : VP X pc (a0 :: a1 :: a2 :: a3 :: r) (.ref x :: st) h n c z := VP.astore_n hd hi hn k
theorem VP.inN3 {X : PX l M d Q} {a0 a1 a2 : Option Value} {x : Nat} (hd : decode M.2.1 pc = .ok (.iinc 3 1, 3)) (hi : 3 < M.2.2.1) (hn : nolong (a0 :: a1 :: a2 :: some (.int (nI x)) :: r) = true) (k : VP X (pc + 3) (a0 :: a1 :: a2 :: some (.int (nI (x + 1))) :: r) st h n c z) : VP X pc (a0 :: a1 :: a2 :: some (.int (nI x)) :: r) st h n c z := VP.iincN hd rfl hi hn k
theorem VP.inc3 {X : PX l M d Q} {a0 a1 a2 : Option Value} {x v : Int32} {b : Int} (hd : decode M.2.1 pc = .ok (.iinc 3 b, 3)) (hv : x + Int32.ofInt b = v) (hi : 3 < M.2.2.1) (hn : nolong (a0 :: a1 :: a2 :: some (.int x) :: r) = true) (k : VP X (pc + 3) (a0 :: a1 :: a2 :: some (.int v) :: r) st h n c z) : VP X pc (a0 :: a1 :: a2 :: some (.int x) :: r) st h n c z := VP.iinc hd rfl hv hi hn k
theorem VP.ist4 {X : PX l M d Q} {a0 a1 a2 a3 a4 : Option Value} {x : Int32} (hd : decode M.2.1 pc = .ok (.istore 4, 2)) (hi : 4 < M.2.2.1) (hn : nolong (a0 :: a1 :: a2 :: a3 :: a4 :: r) = true) (k : VP X (pc + 2) (a0 :: a1 :: a2 :: a3 :: some (.int x) :: r) st h n c z) : VP X pc (a0 :: a1 :: a2 :: a3 :: a4 :: r) (.int x :: st) h n c z := VP.istore hd hi hn k
theorem VP.ast4 {X : PX l M d Q} {a0 a1 a2 a3 a4 : Option Value} {x : Nat} (hd : decode M.2.1 pc = .ok (.astore 4, 2)) (hi : 4 < M.2.2.1) (hn : nolong (a0 :: a1 :: a2 :: a3 :: a4 :: r) = true) (k : VP X (pc + 2) (a0 :: a1 :: a2 :: a3 :: some (.ref x) :: r) st h n c z) : VP X pc (a0 :: a1 :: a2 :: a3 :: a4 :: r) (.ref x :: st) h n c z := VP.astore hd hi hn k
theorem VP.inN4 {X : PX l M d Q} {a0 a1 a2 a3 : Option Value} {x : Nat} (hd : decode M.2.1 pc = .ok (.iinc 4 1, 3)) (hi : 4 < M.2.2.1) (hn : nolong (a0 :: a1 :: a2 :: a3 :: some (.int (nI x)) :: r) = true) (k : VP X (pc + 3) (a0 :: a1 :: a2 :: a3 :: some (.int (nI (x + 1))) :: r) st h n c z) : VP X pc (a0 :: a1 :: a2 :: a3 :: some (.int (nI x)) :: r) st h n c z := VP.iincN hd rfl hi hn k
theorem VP.inc4 {X : PX l M d Q} {a0 a1 a2 a3 : Option Value} {x v : Int32} {b : Int} (hd : decode M.2.1 pc = .ok (.iinc 4 b, 3)) (hv : x + Int32.ofInt b = v) (hi : 4 < M.2.2.1) (hn : nolong (a0 :: a1 :: a2 :: a3 :: some (.int x) :: r) = true) (k : VP X (pc + 3) (a0 :: a1 :: a2 :: a3 :: some (.int v) :: r) st h n c z) : VP X pc (a0 :: a1 :: a2 :: a3 :: some (.int x) :: r) st h n c z := VP.iinc hd rfl hv hi hn k
end PL
