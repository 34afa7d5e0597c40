theorem Wd.lt {D : va_G} {T : Nat → ClassId} {ad : Nat → Nat} {B : Nat} {h : MH} {n : Nat} {H : Heap} {a : Nat} {x : MC} (had : ∀ k, k < 1000000 → ad k = B + k) (hw : Wd D T ad B h n H) (ha : h a = some x) : B ≤ ad a := by
  have h1 := (hw.2.2 a x ha).1
  rw [had a (by have := hw.2.1; omega)]
  omega
theorem Wd.n {D : va_G} {T : Nat → ClassId} {ad : Nat → Nat} {B : Nat} {h : MH} {n : Nat} {H : Heap} (had : ∀ k, k < 1000000 → ad k = B + k) (hw : Wd D T ad B h n H) : ad n = H.size := by
  rw [had n hw.2.1, hw.1]
section VS
variable {l : Launch} {M : MT} {d pc : Nat} {ls : List (Option Value)} {st : List Value} {h : MH} {n c z : Nat} {Q : Option Value → MH → Nat → Prop}
theorem V.iast {a N : Nat} {f : Nat → Int32} {i x : Int32} (hd : decode M.2.1 pc = .ok (.iastore, 1)) (ha : h a = some (.inl (0, N, .inl f))) (hin : vp_in i N) (kk : V l M d (pc + 1) ls st (hset h a (.inl (0, N, .inl (upd f i.toNatClampNeg x)))) n c z Q) : V l M d pc ls (.int x :: .int i :: .ref a :: st) h n c z Q := by
  intro p e R s m args below meth cd D T ad adV B lsA H locs cells slots cm sm Qs C hW hS hc hz hcm hzm hl hE
  have had := C.2.2.2.2.2.2.2.1
  refine W.iast C.1 C.2.1 (hW.2.2 a _ ha).2 ((C.2.2.2.2.2.1.1.2 0 _ rfl).1 N (fun j => .int (f j))) (fun q => by cases q) (by show ¬ (i < 0 ∨ (arrV _ _ _).slots.size ≤ _); rw [arrV_size]; exact hin) rfl rfl hd fun H1 e1 z1 oq => ?_
  refine kk p e R s m args below meth cd D T ad adV B lsA H1 _ cells slots cm sm Qs C (hW.set had ha ?_ z1 oq) (hS.put z1 oq (hW.lt had ha)) hc hz hcm hzm hl hE
  show H1[ad a]? = some (vp_cell _ _)
  rw [e1]
  show some ((vp_cell (T 0) (N, .inl f)).setSlot _ _) = some (vp_cell (T 0) _)
  rw [vp_cell_i, vp_cell_i, arrV_store]
  congr 2
  funext q
  by_cases hq : q = i.toNatClampNeg
  · subst hq
    simp [updV, upd]
  · simp [updV, upd, hq]
theorem V.zast {a N : Nat} {f : Nat → Int32} {i x : Int32} (hd : decode M.2.1 pc = .ok (.bastore, 1)) (ha : h a = some (.inl (1, N, .inl f))) (hin : vp_in i N) (hx : narrow .boolean (.int x) = .int x) (kk : V l M d (pc + 1) ls st (hset h a (.inl (1, N, .inl (upd f i.toNatClampNeg x)))) n c z Q) : V l M d pc ls (.int x :: .int i :: .ref a :: st) h n c z Q := by
  intro p e R s m args below meth cd D T ad adV B lsA H locs cells slots cm sm Qs C hW hS hc hz hcm hzm hl hE
  have had := C.2.2.2.2.2.2.2.1
  refine W.zast C.1 C.2.1 (hW.2.2 a _ ha).2 ((C.2.2.2.2.2.1.1.2 1 _ rfl).1 N (fun j => .int (f j))) (fun q => by cases q) (by show ¬ (i < 0 ∨ (arrV _ _ _).slots.size ≤ _); rw [arrV_size]; exact hin) rfl rfl hd fun H1 e1 z1 oq => ?_
  rw [hx] at e1
  refine kk p e R s m args below meth cd D T ad adV B lsA H1 _ cells slots cm sm Qs C (hW.set had ha ?_ z1 oq) (hS.put z1 oq (hW.lt had ha)) hc hz hcm hzm hl hE
  show H1[ad a]? = some (vp_cell _ _)
  rw [e1]
  show some ((vp_cell (T 1) (N, .inl f)).setSlot _ _) = some (vp_cell (T 1) _)
  rw [vp_cell_i, vp_cell_i, arrV_store]
  congr 2
  funext q
  by_cases hq : q = i.toNatClampNeg
  · subst hq
    simp [updV, upd]
  · simp [updV, upd, hq]
theorem V.last {a N : Nat} {f : Nat → Int64} {i : Int32} {x : Int64} (hd : decode M.2.1 pc = .ok (.lastore, 1)) (ha : h a = some (.inl (2, N, .inr (.inl f)))) (hin : vp_in i N) (kk : V l M d (pc + 1) ls st (hset h a (.inl (2, N, .inr (.inl (vp_updL f i.toNatClampNeg x))))) n c z Q) : V l M d pc ls (.long x :: .int i :: .ref a :: st) h n c z Q := by
  intro p e R s m args below meth cd D T ad adV B lsA H locs cells slots cm sm Qs C hW hS hc hz hcm hzm hl hE
  have had := C.2.2.2.2.2.2.2.1
  refine W.last C.1 C.2.1 (hW.2.2 a _ ha).2 ((C.2.2.2.2.2.1.1.2 2 _ rfl).1 N (fun j => .long (f j))) (fun q => by cases q) (by show ¬ (i < 0 ∨ (arrV _ _ _).slots.size ≤ _); rw [arrV_size]; exact hin) rfl rfl hd fun H1 e1 z1 oq => ?_
  refine kk p e R s m args below meth cd D T ad adV B lsA H1 _ cells slots cm sm Qs C (hW.set had ha ?_ z1 oq) (hS.put z1 oq (hW.lt had ha)) hc hz hcm hzm hl hE
  show H1[ad a]? = some (vp_cell _ _)
  rw [e1]
  show some ((vp_cell (T 2) (N, .inr (.inl f))).setSlot _ _) = some (vp_cell (T 2) _)
  rw [vp_cell_l, vp_cell_l, arrV_store]
  congr 2
  funext q
  by_cases hq : q = i.toNatClampNeg
  · subst hq
    simp [updV, vp_updL]
  · simp [updV, vp_updL, hq]
/-- a row of references gets an object of its class: players (kind 3, class 0), shelves (kind 4, class 3) -/
theorem V.aast {a N t ci q : Nat} {f : Nat → Option Nat} {fs : List Value} {i : Int32} (hd : decode M.2.1 pc = .ok (.aastore, 1)) (ht : (t = 3 ∧ ci = 0) ∨ (t = 4 ∧ ci = 3)) (ha : h a = some (.inl (t, N, .inr (.inr (.inr (.inr f)))))) (hq : h q = some (.inr (ci, fs))) (hin : vp_in i N)
    (kk : V l M d (pc + 1) ls st (hset h a (.inl (t, N, .inr (.inr (.inr (.inr (va_up f i.toNatClampNeg (some q)))))))) n c z Q) : V l M d pc ls (.ref q :: .int i :: .ref a :: st) h n c z Q := by
  intro p e R s m args below meth cd D T ad adV B lsA H locs cells slots cm sm Qs C hW hS hc hz hcm hzm hl hE
  have had := C.2.2.2.2.2.2.2.1
  have hK := C.2.2.2.2.2.1.1
  have hlt : i.toNatClampNeg < N := Nat.not_le.mp fun q => hin (Or.inr q)
  have h0 : ¬ i < 0 := fun q => hin (Or.inl q)
  obtain ⟨r, hr, cellV, g1, g2, g3, -⟩ := (hW.2.2 q _ hq).2
  have hcls := (hK.1 ci r hr).2
  have hra : va_RA s (T t) (.object r.1) := by
    rcases ht with ⟨rfl, rfl⟩ | ⟨rfl, rfl⟩
    · cases hr; exact (hK.2 3 _ rfl).2
    · cases hr; exact (hK.2 4 _ rfl).2
  obtain ⟨kA, comp, k1, k2, k3, -⟩ := hra
  have hcomp : comp = D.1 ci := Option.some.inj (k3.symm.trans hcls.1)
  subst hcomp
  obtain ⟨kC, hkC, -⟩ := hcls.2
  have hcell : H[ad a]? = some (vp_cell (T t) (N, .inr (.inr (.inr (.inr (fun j => (f j).map ad)))))) := (hW.2.2 a _ ha).2
  refine W.aast C.1 C.2.1 hcell (fun q h => by cases h) (fun h => by cases h) k1 k2 rfl hkC ⟨h0, by show _ < (arrV _ _ _).slots.size; rw [arrV_size]; exact hlt⟩ g1 (fun q h => by rw [g3] at h; cases h) (by rw [g2]; exact hkC) (by rw [g2]; exact va_assign hcls) rfl rfl hd fun H1 e1 z1 oq => ?_
  refine kk p e R s m args below meth cd D T ad adV B lsA H1 _ cells slots cm sm Qs C (hW.set had ha ?_ z1 oq) (hS.put z1 oq (hW.lt had ha)) hc hz hcm hzm hl hE
  show H1[ad a]? = some (vp_cell _ _)
  rw [e1]
  show some ((vp_cell (T t) _).setSlot _ _) = some (vp_cell (T t) _)
  rw [vp_cell_q, vp_cell_q, arrV_store]
  congr 2
  funext j
  by_cases hj : j = i.toNatClampNeg
  · subst hj
    simp [updV, va_up, va_rf]
  · simp [updV, va_up, hj]
def dfl (ty : Nat → FieldType) (N : Nat) : List Value := (List.range N).map (fun k => defaultValue (ty k))
/-- a new object of class number ci -/
def NC (own : String) (idx ci N : Nat) (fs : List Value) : Prop := ∃ (C : String) (Tt : u_T) (ty : Nat → FieldType), classes[ci]? = some (C, Tt, N) ∧ CKp C Tt N ty ∧ Cond.classLink own idx C ∈ WG ∧ Cond.instantiable C N ∈ WG ∧ Cond.initialized C ∈ WG ∧ ∀ (ad : Nat → Nat) (j : Nat), j < N → defaultValue (ty j) = vp_V (fs.map (mv ad)) j
theorem V.new {idx ci N : Nat} {fs : List Value} (hd : decode M.2.1 pc = .ok (.new idx, 3)) (hf : NC M.1.cls idx ci N fs) (hn : n + 1 < 1000000) (kk : V l M d (pc + 3) ls (.ref n :: st) (hset h n (.inr (ci, fs))) (n + 1) c z Q) : V l M d pc ls st h n (c + 1) (z + N) Q := by
  intro p e R s m args below meth cd D T ad adV B lsA H locs cells slots cm sm Qs C hW hS hc hz hcm hzm hl hE
  have had := C.2.2.2.2.2.2.2.1
  obtain ⟨Cn, Tt, ty, hcl, hck, w1, w2, w3, hdf⟩ := hf
  have hts := C.2.2.2.2.1
  have hKn := C.2.2.2.2.2.1.1.1 ci _ hcl
  refine W.newcK C.1 C.2.1 C.2.2.2.1 (hts _ w1) (hts _ w2) (hts _ w3) rfl hd (by omega) (by omega) hKn.2.1 rfl fun H1 kC hkC e1 z1 o1 => ?_
  have k1 := kk p e R s m args below meth cd D T ad adV B lsA H1 locs (cells + 1) (slots + N) cm sm Qs C (hW.put had hn ?_ z1 o1) ⟨Nat.le_trans hS.1 (by omega), fun x h1 h2 => (o1 x (Nat.lt_of_lt_of_le h1 hS.1)).trans (hS.2.1 x h1 h2), hS.2.2⟩ (by omega) (by omega) hcm hzm hl hE
  · rw [show (Value.ref n :: st).map (mv ad) = .ref H.size :: st.map (mv ad) by rw [← hW.n had]; rfl] at k1
    exact k1
  · rw [hW.n had]
    exact ⟨_, hcl, (u_born ty hts hck.1 hKn hkC e1 hck.2.1).to (fun j hj => hdf ad j hj)⟩
theorem V.newI {v : Int32} {N : Nat} (hd : decode M.2.1 pc = .ok (.newarray .int, 2)) (hw : Cond.arrayClass .int ∈ WG) (hv0 : ¬ v < 0) (hv : v.toNatClampNeg = N) (hN : N ≤ 10000) (hn : n + 1 < 1000000) (kk : V l M d (pc + 2) ls (.ref n :: st) (hset h n (.inl (0, N, .inl (fun _ => 0)))) (n + 1) c z Q) : V l M d pc ls (.int v :: st) h n (c + 1) (z + N) Q := by
  intro p e R s m args below meth cd D T ad adV B lsA H locs cells slots cm sm Qs C hW hS hc hz hcm hzm hl hE
  have had := C.2.2.2.2.2.2.2.1
  refine va_newaK (atype := .int) C.1 C.2.1 (C.2.2.2.2.1 _ hw) rfl hd rfl hv0 hv (by show N * 4 ≤ _; omega) (by omega) (by omega) rfl fun H1 cA e1 z1 o1 hAr hNm => ?_
  have hcA : cA = T 0 := by
    have h2 : s.vm.findClass ("[" ++ (FieldType.int).toString) = some (T 0) := (C.2.2.2.2.2.1.1.2 0 _ rfl).2
    exact Option.some.inj (hNm.symm.trans h2)
  subst hcA
  have k1 := kk p e R s m args below meth cd D T ad adV B lsA H1 locs (cells + 1) (slots + N) cm sm Qs C (hW.put had hn ?_ z1 o1) ⟨Nat.le_trans hS.1 (by omega), fun x h1 h2 => (o1 x (Nat.lt_of_lt_of_le h1 hS.1)).trans (hS.2.1 x h1 h2), hS.2.2⟩ (by omega) (by omega) hcm hzm hl hE
  · rw [show (Value.ref n :: st).map (mv ad) = .ref H.size :: st.map (mv ad) by rw [← hW.n had]; rfl] at k1
    exact k1
  · rw [hW.n had]
    exact e1
theorem V.newZ {v : Int32} {N : Nat} (hd : decode M.2.1 pc = .ok (.newarray .boolean, 2)) (hw : Cond.arrayClass .boolean ∈ WG) (hv0 : ¬ v < 0) (hv : v.toNatClampNeg = N) (hN : N ≤ 10000) (hn : n + 1 < 1000000) (kk : V l M d (pc + 2) ls (.ref n :: st) (hset h n (.inl (1, N, .inl (fun _ => 0)))) (n + 1) c z Q) : V l M d pc ls (.int v :: st) h n (c + 1) (z + N) Q := by
  intro p e R s m args below meth cd D T ad adV B lsA H locs cells slots cm sm Qs C hW hS hc hz hcm hzm hl hE
  have had := C.2.2.2.2.2.2.2.1
  refine va_newaK (atype := .boolean) C.1 C.2.1 (C.2.2.2.2.1 _ hw) rfl hd rfl hv0 hv (by show N * 1 ≤ _; omega) (by omega) (by omega) rfl fun H1 cA e1 z1 o1 hAr hNm => ?_
  have hcA : cA = T 1 := by
    have h2 : s.vm.findClass ("[" ++ (FieldType.boolean).toString) = some (T 1) := (C.2.2.2.2.2.1.1.2 1 _ rfl).2
    exact Option.some.inj (hNm.symm.trans h2)
  subst hcA
  have k1 := kk p e R s m args below meth cd D T ad adV B lsA H1 locs (cells + 1) (slots + N) cm sm Qs C (hW.put had hn ?_ z1 o1) ⟨Nat.le_trans hS.1 (by omega), fun x h1 h2 => (o1 x (Nat.lt_of_lt_of_le h1 hS.1)).trans (hS.2.1 x h1 h2), hS.2.2⟩ (by omega) (by omega) hcm hzm hl hE
  · rw [show (Value.ref n :: st).map (mv ad) = .ref H.size :: st.map (mv ad) by rw [← hW.n had]; rfl] at k1
    exact k1
  · rw [hW.n had]
    exact e1
theorem V.newL {v : Int32} {N : Nat} (hd : decode M.2.1 pc = .ok (.newarray .long, 2)) (hw : Cond.arrayClass .long ∈ WG) (hv0 : ¬ v < 0) (hv : v.toNatClampNeg = N) (hN : N ≤ 10000) (hn : n + 1 < 1000000) (kk : V l M d (pc + 2) ls (.ref n :: st) (hset h n (.inl (2, N, .inr (.inl (fun _ => 0))))) (n + 1) c z Q) : V l M d pc ls (.int v :: st) h n (c + 1) (z + N) Q := by
  intro p e R s m args below meth cd D T ad adV B lsA H locs cells slots cm sm Qs C hW hS hc hz hcm hzm hl hE
  have had := C.2.2.2.2.2.2.2.1
  refine va_newaK (atype := .long) C.1 C.2.1 (C.2.2.2.2.1 _ hw) rfl hd rfl hv0 hv (by show N * 8 ≤ _; omega) (by omega) (by omega) rfl fun H1 cA e1 z1 o1 hAr hNm => ?_
  have hcA : cA = T 2 := by
    have h2 : s.vm.findClass ("[" ++ (FieldType.long).toString) = some (T 2) := (C.2.2.2.2.2.1.1.2 2 _ rfl).2
    exact Option.some.inj (hNm.symm.trans h2)
  subst hcA
  have k1 := kk p e R s m args below meth cd D T ad adV B lsA H1 locs (cells + 1) (slots + N) cm sm Qs C (hW.put had hn ?_ z1 o1) ⟨Nat.le_trans hS.1 (by omega), fun x h1 h2 => (o1 x (Nat.lt_of_lt_of_le h1 hS.1)).trans (hS.2.1 x h1 h2), hS.2.2⟩ (by omega) (by omega) hcm hzm hl hE
  · rw [show (Value.ref n :: st).map (mv ad) = .ref H.size :: st.map (mv ad) by rw [← hW.n had]; rfl] at k1
    exact k1
  · rw [hW.n had]
    exact e1
theorem V.newQ {v : Int32} {idx N t : Nat} {Cn : String} (hd : decode M.2.1 pc = .ok (.anewarray idx, 3)) (hw : Cond.classLink M.1.cls idx Cn ∈ WG) (ht : (t = 3 ∧ Cn = "TwoFlags$Player") ∨ (t = 4 ∧ Cn = "TwoFlags$Shelf")) (hv0 : ¬ v < 0) (hv : v.toNatClampNeg = N) (hN : N ≤ 10000) (hn : n + 1 < 1000000) (kk : V l M d (pc + 3) ls (.ref n :: st) (hset h n (.inl (t, N, .inr (.inr (.inr (.inr (fun _ => none))))))) (n + 1) c z Q) : V l M d pc ls (.int v :: st) h n (c + 1) (z + N) Q := by
  intro p e R s m args below meth cd D T ad adV B lsA H locs cells slots cm sm Qs C hW hS hc hz hcm hzm hl hE
  have had := C.2.2.2.2.2.2.2.1
  have hAO : va_AO Cn s := by
    rcases ht with ⟨-, rfl⟩ | ⟨-, rfl⟩
    · exact C.2.2.2.2.2.1.2.2.2
    · exact C.2.2.2.2.2.1.2.2.1
  have hRA : va_RA s (T t) (.object Cn) := by
    rcases ht with ⟨rfl, rfl⟩ | ⟨rfl, rfl⟩
    · exact (C.2.2.2.2.2.1.1.2 3 _ rfl).2
    · exact (C.2.2.2.2.2.1.1.2 4 _ rfl).2
  refine W.anew C.1 C.2.1 C.2.2.2.1 (C.2.2.2.2.1 _ hw) (va_AO.use hAO) rfl hd rfl hv0 (by omega) (by omega) (by omega) fun cA kA comp f1 f2 f3 f4 => ?_
  subst hv
  have hcA : cA = T t := by
    obtain ⟨kA2, comp2, -, -, -, h2⟩ := hRA
    exact Option.some.inj (f1.symm.trans h2)
  subst hcA
  generalize hH1 : H.push ({ cls := T t, slots := Array.replicate v.toNatClampNeg .null, vm := .none } : Cell) = H1
  have z1 : H1.size = H.size + 1 := by rw [← hH1, Array.size_push]
  have e1 : H1[H.size]? = some (arrV (T t) v.toNatClampNeg (fun _ => .null)) := by rw [← hH1, Array.getElem?_push_size, ← arrV_new]
  have o1 : ∀ q : Nat, q < H.size → H1[q]? = H[q]? := fun q hq => by rw [← hH1, Array.getElem?_push, if_neg (Nat.ne_of_lt hq)]
  have k1 := kk p e R s m args below meth cd D T ad adV B lsA H1 locs (cells + 1) (slots + v.toNatClampNeg) cm sm Qs C (hW.put had hn ?_ z1 o1) ⟨Nat.le_trans hS.1 (by omega), fun x h1 h2 => (o1 x (Nat.lt_of_lt_of_le h1 hS.1)).trans (hS.2.1 x h1 h2), hS.2.2⟩ (by omega) (by omega) hcm hzm hl hE
  · rw [show (Value.ref n :: st).map (mv ad) = .ref H.size :: st.map (mv ad) by rw [← hW.n had]; rfl] at k1
    exact k1
  · rw [hW.n had]
    exact e1
theorem V.objInit {idx a : Nat} (hd : decode M.2.1 pc = .ok (.invokespecial idx, 3)) (hw : Cond.methodLink M.1.cls idx Lib.objectInit ∈ WG) (hw2 : Cond.instanceMethod Lib.objectInit ∈ WG) (hw3 : Cond.code Lib.objectInit ⟨#[0xb1]⟩ 1 none ∈ WG) (hd0 : 1 ≤ d) (hst : (st.map fun v => v.category).sum ≤ 8) (kk : V l M d (pc + 3) ls st h n c z Q) : V l M d pc ls (.ref a :: st) h n c z Q := by
  intro p e R s m args below meth cd D T ad adV B lsA H locs cells slots cm sm Qs C hW hS hc hz hcm hzm hl hE
  have hts := C.2.2.2.2.1
  have hR1 := C.2.2.2.2.2.2.2.2.2.1
  have hR2 := C.2.2.2.2.2.2.2.2.2.2.1
  have hcat : ((st.map (mv ad)).map fun v => v.category).sum = (st.map fun v => v.category).sum := by
    rw [List.map_map]
    congr 1
    exact List.map_congr_left (fun v _ => mv_cat ad v)
  refine W.objInit C.1 C.2.1 C.2.2.2.1 (hts _ hw) (hts _ hw2) (hts _ hw3) rfl (hl.1.trans C.2.2.1.symm) rfl hd (by omega) ?_ (kk p e R s m args below meth cd D T ad adV B lsA H locs cells slots cm sm Qs C hW hS hc hz hcm hzm hl hE)
  show 2 * 0 + ((st.map (mv ad)).map fun v => v.category).sum + 12 ≤ _
  rw [hcat]
  omega
theorem V.mmin {idx : Nat} {x y : Int32} (hd : decode M.2.1 pc = .ok (.invokestatic idx, 3)) (hw : Cond.methodLink M.1.cls idx Lib.Math.min.name ∈ WG) (hw2 : Cond.static Lib.Math.min.name ∈ WG) (hw3 : Cond.initialized "java/lang/Math" ∈ WG) (hw4 : Cond.code Lib.Math.min.name Lib.Math.min.code 2 (some .int) ∈ WG) (hd0 : 1 ≤ d) (hst : (st.map fun v => v.category).sum ≤ 8)
    (kk : V l M d (pc + 3) ls (.int (if y < x then y else x) :: st) h n c z Q) : V l M d pc ls (.int y :: .int x :: st) h n c z Q := by
  intro p e R s m args below meth cd D T ad adV B lsA H locs cells slots cm sm Qs C hW hS hc hz hcm hzm hl hE
  have hts := C.2.2.2.2.1
  have hR1 := C.2.2.2.2.2.2.2.2.2.1
  have hR2 := C.2.2.2.2.2.2.2.2.2.2.1
  have hcat : ((st.map (mv ad)).map fun v => v.category).sum = (st.map fun v => v.category).sum := by
    rw [List.map_map]
    congr 1
    exact List.map_congr_left (fun v _ => mv_cat ad v)
  exact va_mmin C.1 C.2.1 (C.2.2.1.trans hl.1.symm) C.2.2.2.1 (hts _ hw) (hts _ hw2) (hts _ hw3) (hts _ hw4) (by omega) (by rw [hcat]; omega) (by omega) (by omega) hd (kk p e R s m args below meth cd D T ad adV B lsA H locs cells slots cm sm Qs C hW hS hc hz hcm hzm hl hE)
theorem V.mmax {idx : Nat} {x y : Int32} (hd : decode M.2.1 pc = .ok (.invokestatic idx, 3)) (hw : Cond.methodLink M.1.cls idx Lib.Math.max.name ∈ WG) (hw2 : Cond.static Lib.Math.max.name ∈ WG) (hw3 : Cond.initialized "java/lang/Math" ∈ WG) (hw4 : Cond.code Lib.Math.max.name Lib.Math.max.code 2 (some .int) ∈ WG) (hd0 : 1 ≤ d) (hst : (st.map fun v => v.category).sum ≤ 8)
    (kk : V l M d (pc + 3) ls (.int (if x < y then y else x) :: st) h n c z Q) : V l M d pc ls (.int y :: .int x :: st) h n c z Q := by
  intro p e R s m args below meth cd D T ad adV B lsA H locs cells slots cm sm Qs C hW hS hc hz hcm hzm hl hE
  have hts := C.2.2.2.2.1
  have hR1 := C.2.2.2.2.2.2.2.2.2.1
  have hR2 := C.2.2.2.2.2.2.2.2.2.2.1
  have hcat : ((st.map (mv ad)).map fun v => v.category).sum = (st.map fun v => v.category).sum := by
    rw [List.map_map]
    congr 1
    exact List.map_congr_left (fun v _ => mv_cat ad v)
  exact va_mmax C.1 C.2.1 (C.2.2.1.trans hl.1.symm) C.2.2.2.1 (hts _ hw) (hts _ hw2) (hts _ hw3) (hts _ hw4) (by omega) (by rw [hcat]; omega) (by omega) (by omega) hd (kk p e R s m args below meth cd D T ad adV B lsA H locs cells slots cm sm Qs C hW hS hc hz hcm hzm hl hE)
/-- System.arraycopy of ints -/
theorem V.copyi {idx a0 a1 n0 n1 : Nat} {f g : Nat → Int32} {sp dp k : Int32} (hd : decode M.2.1 pc = .ok (.invokestatic idx, 3)) (hw : Cond.methodLink M.1.cls idx arraycopyName ∈ WG) (hw2 : Cond.native arraycopyName ∈ WG) (hw3 : Cond.static arraycopyName ∈ WG) (hw4 : Cond.initialized "java/lang/System" ∈ WG) (hd0 : 1 ≤ d) (hst : (st.map fun v => v.category).sum ≤ 8)
    (ha0 : h a0 = some (.inl (0, n0, .inl f))) (ha1 : h a1 = some (.inl (0, n1, .inl g))) (h1 : ¬ sp < 0) (h2 : ¬ dp < 0) (h3 : ¬ k < 0) (h4 : sp.toNatClampNeg + k.toNatClampNeg ≤ n0) (h5 : dp.toNatClampNeg + k.toNatClampNeg ≤ n1)
    (kk : V l M d (pc + 3) ls st (hset h a1 (.inl (0, n1, .inl (va_cpy f g sp.toNatClampNeg dp.toNatClampNeg k.toNatClampNeg)))) n c z Q) : V l M d pc ls (.int k :: .int dp :: .ref a1 :: .int sp :: .ref a0 :: st) h n c z Q := by
  intro p e R s m args below meth cd D T ad adV B lsA H locs cells slots cm sm Qs C hW hS hc hz hcm hzm hl hE
  have had := C.2.2.2.2.2.2.2.1
  have hts := C.2.2.2.2.1
  have hR1 := C.2.2.2.2.2.2.2.2.2.1
  have hR2 := C.2.2.2.2.2.2.2.2.2.2.1
  have hcat : ((st.map (mv ad)).map fun v => v.category).sum = (st.map fun v => v.category).sum := by
    rw [List.map_map]
    congr 1
    exact List.map_congr_left (fun v _ => mv_cat ad v)
  have nn : ∀ z : Int32, ¬ z < 0 → z.toInt = (z.toNatClampNeg : Int) := by
    intro z hz
    have hz0 : (0 : Int) ≤ z.toInt := by
      have := Int32.not_lt.mp hz
      simpa using Int32.le_iff_toInt_le.mp this
    show z.toInt = ((z.toInt.toNat : Nat) : Int)
    omega
  have hBa := hW.lt had ha1
  intro U hU X
  have hc0 : H[ad a0]? = some (vp_cell (T 0) (n0, .inl f)) := (hW.2.2 a0 _ ha0).2
  have hc1 : H[ad a1]? = some (vp_cell (T 0) (n1, .inl g)) := (hW.2.2 a1 _ ha1).2
  obtain ⟨-, k0, hk0, cm0, hkk0⟩ := (C.2.2.2.2.2.1.1.2 0 _ rfl).1 n0 (fun j => .int (f j))
  obtain ⟨vm', X', step⟩ := X.arraycopy C.1 C.2.2.2.1 (hts _ hw) (hts _ hw2) (hts _ hw3) (hts _ hw4) (src := ad a0) (dst := ad a1) (cs := vp_cell (T 0) (n0, .inl f)) (cd := vp_cell (T 0) (n1, .inl g)) (srcPos := sp) (destPos := dp) (n := k) (by rw [hU]; exact hc0) (by rw [hU]; exact hc1)
    (fun _ h => by cases h) (fun _ h => by cases h) (fun h => by cases h) (fun h => by cases h) hk0 hk0 hkk0 hkk0 (by simp [show refKind FieldType.int = false from rfl]) h1 h2 h3
    (by rw [nn sp h1, nn k h3]; show ¬ _ > ((arrV (T 0) n0 (fun j => .int (f j))).slots.size : Int); rw [arrV_size]; omega)
    (by rw [nn dp h2, nn k h3]; show ¬ _ > ((arrV (T 0) n1 (fun j => .int (g j))).slots.size : Int); rw [arrV_size]; omega)
    (fun vm₁ _ i hi => by
      have e : (vp_cell (T 0) (n0, .inl f)).slots.getD (sp.toNatClampNeg + i) .null = .int (f (sp.toNatClampNeg + i)) := by
        show (arrV (T 0) n0 (fun j => .int (f j))).slots.getD _ _ = _
        rw [Array.getD_eq_getD_getElem?, arrV_read _ _ (by omega)]
        rfl
      refine ⟨?_, ?_⟩
      · rw [e]
        rfl
      · rw [e]
        exact trivial)
    (g := F0 m pc lsA (.int k :: .int dp :: .ref (ad a1) :: .int sp :: .ref (ad a0) :: st.map (mv ad))) rfl (hl.1.trans C.2.2.1.symm) (rest := st.map (mv ad)) rfl (by rw [C.2.1]; exact hd) (by omega) (by show 2 * 0 + _ + _ ≤ _; rw [hcat]; exact Nat.le_trans (Nat.add_le_add (show 2 * 0 + _ ≤ 8 by omega) (show nativeFrameWords "java/lang/System" "arraycopy" 5 + 11 ≤ 32 by decide)) (by omega))
  have e1 : copied (vp_cell (T 0) (n0, .inl f)) (vp_cell (T 0) (n1, .inl g)) sp dp k = vp_cell (T 0) (n1, .inl (va_cpy f g sp.toNatClampNeg dp.toNatClampNeg k.toNatClampNeg)) := va_copied (fun z => .int z) (T 0) (T 0) f g h4
  rw [e1] at X' step
  have hl0 : ad a1 < H.size := (Array.getElem?_eq_some_iff.mp hc1).1
  have hheap : ((U.setVm vm').setCell (ad a1) (vp_cell (T 0) (n1, .inl (va_cpy f g sp.toNatClampNeg dp.toNatClampNeg k.toNatClampNeg)))).heap = H.setIfInBounds (ad a1) (vp_cell (T 0) (n1, .inl (va_cpy f g sp.toNatClampNeg dp.toNatClampNeg k.toNatClampNeg))) := by rw [← hU]; rfl
  have oq : ∀ q : Nat, q ≠ ad a1 → (H.setIfInBounds (ad a1) (vp_cell (T 0) (n1, .inl (va_cpy f g sp.toNatClampNeg dp.toNatClampNeg k.toNatClampNeg))))[q]? = H[q]? := fun q hq => by simp [Array.getElem?_setIfInBounds, Ne.symm hq]
  obtain ⟨t, a1', b1⟩ := kk p e R s m args below meth cd D T ad adV B lsA _ _ cells slots cm sm Qs C (hW.set had ha1 (show (H.setIfInBounds (ad a1) _)[ad a1]? = some _ by simp [Array.getElem?_setIfInBounds, hl0]) (by simp) oq) ⟨by simp; exact hS.1, fun q g1 g2 => by
      rw [oq q (fun e => g2 (by rw [e]; exact hBa))]
      exact hS.2.1 q g1 g2, fun q hq => by
      rcases List.mem_append.mp hq with h | h
      · exact hS.2.2 q h
      · obtain ⟨z, -, hz⟩ := List.mem_map.mp h
        rw [← hz]
        exact hBa⟩ hc hz hcm hzm hl hE _ hheap X'
  exact ⟨t, step t a1', b1⟩
end VS
