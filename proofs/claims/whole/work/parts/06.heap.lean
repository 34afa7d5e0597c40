/-- place a of the picture gets x -/
def hset (h : MH) (a : Nat) (x : MC) : MH := fun j => if j = a then some x else h j
theorem hset_self (h : MH) (a : Nat) (x : MC) : hset h a x a = some x := by simp [hset]
theorem hset_ne (h : MH) {a j : Nat} (x : MC) (hj : j ≠ a) : hset h a x j = h j := by simp [hset, hj]
theorem hset_hset (h : MH) (a : Nat) (x y : MC) : hset (hset h a x) a y = hset h a y := by
  funext j
  by_cases hj : j = a <;> simp [hset, hj]
theorem hset_id {h : MH} {a : Nat} {x : MC} (hx : h a = some x) : hset h a x = h := by
  funext j
  by_cases hj : j = a
  · subst hj; rw [hset_self, hx]
  · rw [hset_ne _ _ hj]
theorem Wd.set {D : va_G} {T : Nat → ClassId} {ad : Nat → Nat} {B : Nat} {h : MH} {n : Nat} {H H1 : Heap} {a : Nat} {x0 x : MC} (had : ∀ k, k < 1000000 → ad k = B + k) (hw : Wd D T ad B h n H) (ha : h a = some x0)
    (he : va_at D classes (ad a, me T ad x) H1) (hz : H1.size = H.size) (ho : ∀ q : Nat, q ≠ ad a → H1[q]? = H[q]?) : Wd D T ad B (hset h a x) n H1 := by
  obtain ⟨h1, h2, h3⟩ := hw
  refine ⟨hz.trans h1, h2, fun k y hk => ?_⟩
  have han := (h3 a x0 ha).1
  by_cases e : k = a
  · subst e
    rw [hset_self] at hk
    cases hk
    exact ⟨han, he⟩
  · rw [hset_ne _ _ e] at hk
    obtain ⟨g1, g2⟩ := h3 k y hk
    refine ⟨g1, g2.kept (ho _ ?_)⟩
    show ad k ≠ ad a
    rw [had k (by omega), had a (by omega)]
    omega
theorem Wd.put {D : va_G} {T : Nat → ClassId} {ad : Nat → Nat} {B : Nat} {h : MH} {n : Nat} {H H1 : Heap} {x : MC} (hw : Wd D T ad B h n H) (had : ∀ k, k < 1000000 → ad k = B + k) (hn : n + 1 < 1000000)
    (he : va_at D classes (ad n, me T ad x) H1) (hz : H1.size = H.size + 1) (ho : ∀ q : Nat, q < H.size → H1[q]? = H[q]?) : Wd D T ad B (hset h n x) (n + 1) H1 := by
  obtain ⟨h1, h2, h3⟩ := hw
  refine ⟨by rw [hz, h1]; omega, hn, fun k y hk => ?_⟩
  by_cases e : k = n
  · subst e
    rw [hset_self] at hk
    cases hk
    exact ⟨Nat.lt_succ_self _, he⟩
  · rw [hset_ne _ _ e] at hk
    obtain ⟨g1, g2⟩ := h3 k y hk
    exact ⟨by omega, g2.kept (ho _ g2.lt)⟩
theorem Wd.one {D : va_G} {T : Nat → ClassId} {ad : Nat → Nat} {B : Nat} {h : MH} {n : Nat} {H : Heap} {a : Nat} {x : MC} (hw : Wd D T ad B h n H) (ha : h a = some x) : va_P D classes [(ad a, me T ad x)] H := by
  intro k q hq
  cases k with
  | zero =>
    simp at hq
    subst hq
    exact (hw.2.2 a x ha).2
  | succ k => simp at hq
/-- a class's facts -/
def CKp (C : String) (Tt : u_T) (N : Nat) (ty : Nat → FieldType) : Prop := (∀ w ∈ u_ws C Tt N, w ∈ WG) ∧ (∀ k, k < N → parseFieldDescriptor (Tt k).2.2.1 = some (ty k)) ∧ ∀ a, a < N → ∀ b, b < N → a ≠ b → (Tt a).2.1 ≠ (Tt b).2.1
/-- entry idx of own's table is field k of class number ci -/
def FL (own : String) (idx ci k : Nat) : Prop := ∃ (C : String) (Tt : u_T) (N : Nat) (ty : Nat → FieldType), classes[ci]? = some (C, Tt, N) ∧ CKp C Tt N ty ∧ k < N ∧ Cond.fieldLink own idx (Tt k).1 (Tt k).2.1 (Tt k).2.2.1 ∈ WG
def FP (own : String) (idx ci k : Nat) (t : FieldType) : Prop := ∃ (C : String) (Tt : u_T) (N : Nat) (ty : Nat → FieldType), classes[ci]? = some (C, Tt, N) ∧ CKp C Tt N ty ∧ k < N ∧ Cond.fieldLink own idx (Tt k).1 (Tt k).2.1 (Tt k).2.2.1 ∈ WG ∧ (Tt k).2.2.2 = false ∧ parseFieldDescriptor (Tt k).2.2.1 = some t
def FF (own : String) (idx ci k : Nat) (t : FieldType) : Prop := ∃ (C : String) (Tt : u_T) (N : Nat) (ty : Nat → FieldType), classes[ci]? = some (C, Tt, N) ∧ CKp C Tt N ty ∧ k < N ∧ Cond.fieldLink own idx (Tt k).1 (Tt k).2.1 (Tt k).2.2.1 ∈ WG ∧ (Tt k).2.2.2 = true ∧ (Tt k).1 = own ∧ parseFieldDescriptor (Tt k).2.2.1 = some t
def vr : Option Nat → Value
  | none => .null
  | some k => .ref k
theorem mv_vr (ad : Nat → Nat) (r : Option Nat) : mv ad (vr r) = va_rf (r.map ad) := by cases r <;> rfl
section VH
variable {l : Launch} {M : MT} {d pc : Nat} {ls : List (Option Value)} {st : List Value} {h : MH} {n c z : Nat} {Q : Option Value → MH → Nat → Prop}
theorem V.getf {idx ci k a : Nat} {fs : List Value} {v : Value} (hd : decode M.2.1 pc = .ok (.getfield idx, 3)) (hf : FL M.1.cls idx ci k) (ha : h a = some (.inr (ci, fs))) (hv : fs[k]? = some v) (kk : V l M d (pc + 3) ls (v :: st) h n c z Q) : V l M d pc ls (.ref a :: st) h n c z Q := by
  intro p e R s m args below meth cd D T ad adV B lsA H locs cells slots cm sm Qs C hW hS hc hz hcm hzm hl hE
  obtain ⟨Cn, Tt, N, ty, hcl, hck, hkN, hlk⟩ := hf
  refine va_get (q0 := 0) (D := D) (ws := [(ad a, me T ad (.inr (ci, fs)))]) (tys := tyl T) (fs := fs.map (mv ad)) C.1 C.2.1 C.2.2.2.2.1 hck.1 C.2.2.2.1 C.2.2.2.2.2.1.1 (hW.one ha) rfl hcl k hkN (C.2.2.2.2.1 _ hlk) (fun x q => q) (v := mv ad v) ?_ hd (kk p e R s m args below meth cd D T ad adV B lsA H locs cells slots cm sm Qs C hW hS hc hz hcm hzm hl hE)
  rw [List.getElem?_map, hv]; rfl
theorem m_putW {p : Program} {l : Launch} {e : Env} {R : Room} {s : State} {m : MethodId} {args : Array Value} {below : List Frame} {meth : Method} {cd : Code} {H : Heap} {locs : List Loc} {cells slots : Nat} {Qs : State → Prop} {cc : ByteArray} {pc : Nat} {lsA : Array Slot} {rest : List Value} {D : va_G} {T : Nat → ClassId} {ad : Nat → Nat} {B : Nat} {own : String}
    (hexec : p.tables.exec = Jvm.exec) (hb : cd.code = cc) (hts : ∀ w ∈ WG, w.before args s = true) (hown : s.vm.findClass own = some m.cls) (hK : KC D T s) {h : MH} {n : Nat} (hW : Wd D T ad B h n H) (had : ∀ k, k < 1000000 → ad k = B + k) (hS0 : va_S (fun q => B ≤ q) s.heap H locs)
    {idx ci k a : Nat} {fs : List Value} {v : Value} {t : FieldType} (hf : FP own idx ci k t ∨ (FF own idx ci k t ∧ meth.name = "<init>")) (ha : h a = some (.inr (ci, fs))) (hl : k < fs.length) (hn : narrow t (mv ad v) = mv ad v) (hfit : fits t (mv ad v) = true) (hdg : decode cc pc = .ok (.putfield idx, 3))
    (kk : ∀ (H1 : Heap) (locs1 : List Loc), Wd D T ad B (hset h a (.inr (ci, fs.set k v))) n H1 → va_S (fun q => B ≤ q) s.heap H1 locs1 → W p l e R s m args below meth cd H1 locs1 cells slots Qs (F0 m (pc + 3) lsA rest)) :
    W p l e R s m args below meth cd H locs cells slots Qs (F0 m pc lsA (mv ad v :: .ref (ad a) :: rest)) := by
  have hBa : B ≤ ad a := by
    have h1 := (hW.2.2 a _ ha).1
    rw [had a (by have := hW.2.1; omega)]
    omega
  have fin : ∀ (H1 : Heap) (q : Nat), va_at D classes (ad a, .inr (ci, (fs.map (mv ad)).set k (mv ad v))) H1 → H1.size = H.size → (∀ q, q ≠ ad a → H1[q]? = H[q]?) → W p l e R s m args below meth cd H1 (locs ++ [⟨ad a, q⟩]) cells slots Qs (F0 m (pc + 3) lsA rest) := by
    intro H1 q e1 e2 e3
    refine kk H1 _ (hW.set had ha ?_ e2 e3) (hS0.put e2 e3 hBa)
    show va_at D classes (ad a, .inr (ci, (fs.set k v).map (mv ad))) H1
    rw [List.map_set]
    exact e1
  rcases hf with ⟨Cn, Tt, N, ty, hcl, hck, hkN, hlk, hfi, hpd⟩ | ⟨⟨Cn, Tt, N, ty, hcl, hck, hkN, hlk, hfi, hdc, hpd⟩, hin2⟩
  · have hap := va_apart (own := own) hts hck.1 ty hck.2.1 hck.2.2 hK.1 hcl
    obtain ⟨r, h1, cell, q1, q2, q3, q4⟩ := (hW.2.2 a _ ha).2
    have hr : r = (Cn, Tt, N) := Option.some.inj (h1.symm.trans hcl)
    subst hr
    obtain ⟨hS, hfc, kC, hkC, hkind⟩ := hK.1.1 ci _ hcl
    obtain ⟨cf, kf, fi, f, hi, hsl⟩ := hS k hkN
    have hlay := hts _ (hck.1 _ (u_in_lay hkN))
    unfold u_lay at hlay
    rw [if_neg (by rw [hfi]; decide)] at hlay
    have hst := (u_facts hfc hkC (u_lays hts hck.1 hkN) hi).1
    have h6 := u_store hfc hkC hkind hlay hi hpd hn hfit
    refine W.putK hexec hb (f := f) ⟨hown, hts _ hlk, ⟨_, _, _, hi⟩, hst⟩ (by rw [q2]; exact h6) q1 q3 (by rw [hsl]; exact k2_hasslot (q4 k hkN)) rfl rfl hdg fun H' e1 e2 e3 => ?_
    rw [hsl] at e1 ⊢
    exact fin H' _ ⟨_, hcl, t_OB.to (V := updV (vp_V (fs.map (mv ad))) k (mv ad v)) ⟨_, e1, q2, q3, t_set q4 hap hkN (mv ad v)⟩ (fun j _ => vp_updV_set (by rw [List.length_map]; exact hl) (mv ad v) j)⟩ e2 e3
  · have hap := va_apart (own := own) hts hck.1 ty hck.2.1 hck.2.2 hK.1 hcl
    obtain ⟨r, h1, cell, q1, q2, q3, q4⟩ := (hW.2.2 a _ ha).2
    have hr : r = (Cn, Tt, N) := Option.some.inj (h1.symm.trans hcl)
    subst hr
    obtain ⟨hS, hfc, kC, hkC, hkind⟩ := hK.1.1 ci _ hcl
    obtain ⟨cf, kf, fi, f, hi, hsl⟩ := hS k hkN
    have hlay := hts _ (hck.1 _ (u_in_lay hkN))
    unfold u_lay at hlay
    rw [if_pos hfi] at hlay
    have hst := (u_facts hfc hkC (u_lays hts hck.1 hkN) hi).1
    have hcf : m.cls = cf := by
      obtain ⟨_, _, c', _, _, _, -, -, hf', -, -, -, hown2, -⟩ := Cond.laysFinal_spec hlay
      have e1 : c' = cf := by have := hi.symm.trans hf'; simp at this; exact this.1.symm
      rw [hdc] at hown2
      rw [← e1]; exact Option.some.inj (hown.symm.trans hown2)
    have h6 := u_fits hfc hkC hkind (Or.inr hlay) hi hpd hn hfit
    refine W.putFinK hexec hb hown (hts _ hlk) hi hst hcf hin2 (by rw [q2]; exact h6) q1 q3 (by rw [hsl]; exact k2_hasslot (q4 k hkN)) rfl rfl hdg fun H' e1 e2 e3 => ?_
    rw [hsl] at e1 ⊢
    exact fin H' _ ⟨_, hcl, t_OB.to (V := updV (vp_V (fs.map (mv ad))) k (mv ad v)) ⟨_, e1, q2, q3, t_set q4 hap hkN (mv ad v)⟩ (fun j _ => vp_updV_set (by rw [List.length_map]; exact hl) (mv ad v) j)⟩ e2 e3
theorem V.putf {idx ci k a : Nat} {fs : List Value} {v : Value} {t : FieldType} (hd : decode M.2.1 pc = .ok (.putfield idx, 3)) (hf : FP M.1.cls idx ci k t) (ha : h a = some (.inr (ci, fs))) (hl0 : k < fs.length) (hn : ∀ ad : Nat → Nat, narrow t (mv ad v) = mv ad v ∧ fits t (mv ad v) = true)
    (kk : V l M d (pc + 3) ls st (hset h a (.inr (ci, fs.set k v))) n c z Q) : V l M d pc ls (v :: .ref a :: st) h n c z Q := by
  intro p e R s m args below meth cd D T ad adV B lsA H locs cells slots cm sm Qs C hW hS hc hz hcm hzm hl hE
  exact m_putW C.1 C.2.1 C.2.2.2.2.1 C.2.2.2.1 C.2.2.2.2.2.1 hW C.2.2.2.2.2.2.2.1 hS (Or.inl hf) ha hl0 (hn ad).1 (hn ad).2 hd (fun H1 locs1 hW1 hS1 => kk p e R s m args below meth cd D T ad adV B lsA H1 locs1 cells slots cm sm Qs C hW1 hS1 hc hz hcm hzm hl hE)
theorem V.putF {idx ci k a : Nat} {fs : List Value} {v : Value} {t : FieldType} (hd : decode M.2.1 pc = .ok (.putfield idx, 3)) (hi : M.1.name = "<init>") (hf : FF M.1.cls idx ci k t) (ha : h a = some (.inr (ci, fs))) (hl0 : k < fs.length) (hn : ∀ ad : Nat → Nat, narrow t (mv ad v) = mv ad v ∧ fits t (mv ad v) = true)
    (kk : V l M d (pc + 3) ls st (hset h a (.inr (ci, fs.set k v))) n c z Q) : V l M d pc ls (v :: .ref a :: st) h n c z Q := by
  intro p e R s m args below meth cd D T ad adV B lsA H locs cells slots cm sm Qs C hW hS hc hz hcm hzm hl hE
  exact m_putW C.1 C.2.1 C.2.2.2.2.1 C.2.2.2.1 C.2.2.2.2.2.1 hW C.2.2.2.2.2.2.2.1 hS (Or.inr ⟨hf, C.2.2.2.2.2.2.2.2.2.2.2.1 hi⟩) ha hl0 (hn ad).1 (hn ad).2 hd (fun H1 locs1 hW1 hS1 => kk p e R s m args below meth cd D T ad adV B lsA H1 locs1 cells slots cm sm Qs C hW1 hS1 hc hz hcm hzm hl hE)
theorem V.iald {a N : Nat} {f : Nat → Int32} {i : Int32} (hd : decode M.2.1 pc = .ok (.iaload, 1)) (ha : h a = some (.inl (0, N, .inl f))) (hin : vp_in i N) (kk : V l M d (pc + 1) ls (.int (f i.toNatClampNeg) :: st) h n c z Q) : V l M d pc ls (.int i :: .ref a :: st) h n c z Q := by
  intro p e R s m args below meth cd D T ad adV B lsA H locs cells slots cm sm Qs C hW hS hc hz hcm hzm hl hE
  exact va_iald (D := D) (ws := [(ad a, .inl (T 0, N, .inl f))]) (tys := tyl T) C.1 C.2.1 C.2.2.2.2.2.1.1 (hW.one ha) 0 0 rfl rfl hin hd (kk p e R s m args below meth cd D T ad adV B lsA H locs cells slots cm sm Qs C hW hS hc hz hcm hzm hl hE)
theorem V.zald {a N : Nat} {f : Nat → Int32} {i : Int32} (hd : decode M.2.1 pc = .ok (.baload, 1)) (ha : h a = some (.inl (1, N, .inl f))) (hin : vp_in i N) (kk : V l M d (pc + 1) ls (.int (f i.toNatClampNeg) :: st) h n c z Q) : V l M d pc ls (.int i :: .ref a :: st) h n c z Q := by
  intro p e R s m args below meth cd D T ad adV B lsA H locs cells slots cm sm Qs C hW hS hc hz hcm hzm hl hE
  exact va_zald (D := D) (ws := [(ad a, .inl (T 1, N, .inl f))]) (tys := tyl T) C.1 C.2.1 C.2.2.2.2.2.1.1 (hW.one ha) 0 1 rfl rfl hin hd (kk p e R s m args below meth cd D T ad adV B lsA H locs cells slots cm sm Qs C hW hS hc hz hcm hzm hl hE)
theorem V.lald {a N : Nat} {f : Nat → Int64} {i : Int32} (hd : decode M.2.1 pc = .ok (.laload, 1)) (ha : h a = some (.inl (2, N, .inr (.inl f)))) (hin : vp_in i N) (kk : V l M d (pc + 1) ls (.long (f i.toNatClampNeg) :: st) h n c z Q) : V l M d pc ls (.int i :: .ref a :: st) h n c z Q := by
  intro p e R s m args below meth cd D T ad adV B lsA H locs cells slots cm sm Qs C hW hS hc hz hcm hzm hl hE
  exact va_lald (D := D) (ws := [(ad a, .inl (T 2, N, .inr (.inl f)))]) (tys := tyl T) C.1 C.2.1 C.2.2.2.2.2.1.1 (hW.one ha) 0 2 rfl rfl hin hd (kk p e R s m args below meth cd D T ad adV B lsA H locs cells slots cm sm Qs C hW hS hc hz hcm hzm hl hE)
/-- players (3), shelves (4) -/
theorem V.aald {a N t q : Nat} {f : Nat → Option Nat} {i : Int32} (hd : decode M.2.1 pc = .ok (.aaload, 1)) (ht : t = 3 ∨ t = 4) (ha : h a = some (.inl (t, N, .inr (.inr (.inr (.inr f)))))) (hin : vp_in i N) (hq : f i.toNatClampNeg = some q) (kk : V l M d (pc + 1) ls (.ref q :: st) h n c z Q) : V l M d pc ls (.int i :: .ref a :: st) h n c z Q := by
  intro p e R s m args below meth cd D T ad adV B lsA H locs cells slots cm sm Qs C hW hS hc hz hcm hzm hl hE
  have k1 := kk p e R s m args below meth cd D T ad adV B lsA H locs cells slots cm sm Qs C hW hS hc hz hcm hzm hl hE
  have e0 : va_rf ((fun j => (f j).map ad) i.toNatClampNeg) = .ref (ad q) := by
    show va_rf ((f i.toNatClampNeg).map ad) = _
    rw [hq]; rfl
  rcases ht with rfl | rfl
  · refine va_aldq (D := D) (ws := [(ad a, .inl (T 3, N, .inr (.inr (.inr (.inr (fun j => (f j).map ad))))))]) (tys := tyl T) C.1 C.2.1 C.2.2.2.2.2.1.1 (hW.one ha) 0 3 rfl rfl hin hd ?_
    rw [e0]; exact k1
  · refine va_aldq (D := D) (ws := [(ad a, .inl (T 4, N, .inr (.inr (.inr (.inr (fun j => (f j).map ad))))))]) (tys := tyl T) C.1 C.2.1 C.2.2.2.2.2.1.1 (hW.one ha) 0 4 rfl rfl hin hd ?_
    rw [e0]; exact k1
theorem V.alen {a N t : Nat} {v : Int32} {y : (Nat → Int32) ⊕ (Nat → Int64) ⊕ (Nat → UInt32) ⊕ (Nat → UInt64) ⊕ (Nat → Option Nat)} (hd : decode M.2.1 pc = .ok (.arraylength, 1)) (ha : h a = some (.inl (t, N, y))) (ht : t < 5) (hv : Int32.ofNat N = v) (kk : V l M d (pc + 1) ls (.int v :: st) h n c z Q) : V l M d pc ls (.ref a :: st) h n c z Q := by
  intro p e R s m args below meth cd D T ad adV B lsA H locs cells slots cm sm Qs C hW hS hc hz hcm hzm hl hE
  have k1 := kk p e R s m args below meth cd D T ad adV B lsA H locs cells slots cm sm Qs C hW hS hc hz hcm hzm hl hE
  obtain ⟨x, hx1, hx2⟩ : ∃ x : vp_A, x.1 = N ∧ me T ad (.inl (t, N, y)) = .inl (T t, x) := by
    rcases y with f | f | f | f | f <;> exact ⟨_, rfl, rfl⟩
  have hP := hW.one ha
  rw [hx2] at hP
  obtain ⟨ty, hty⟩ : ∃ ty, (tyl T)[t]? = some (T t, ty) := by
    rcases (show t = 0 ∨ t = 1 ∨ t = 2 ∨ t = 3 ∨ t = 4 by omega) with rfl | rfl | rfl | rfl | rfl <;> exact ⟨_, rfl⟩
  exact va_alen (D := D) (ws := [(ad a, .inl (T t, x))]) (tys := tyl T) C.1 C.2.1 C.2.2.2.2.2.1.1 hP 0 t rfl hty (by rw [hx1]; exact hv) hd k1
end VH
