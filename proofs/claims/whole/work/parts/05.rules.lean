section VR
variable {l : Launch} {M : MT} {d pc : Nat} {ls : List (Option Value)} {st : List Value} {h : MH} {n c z : Nat} {Q : Option Value → MH → Nat → Prop}
theorem V.iconst {i : Int} {v : Int32} (hd : decode M.2.1 pc = .ok (.iconst i, 1)) (hv : Int32.ofInt i = v) (k : V l M d (pc + 1) ls (.int v :: st) h n c z Q) : V l M d pc ls st h n c z Q := by
  intro p e R s m args below meth cd D T ad adV B lsA H locs cells slots cm sm Qs C hW hS hc hz hcm hzm hl hE
  exact lv_iconst C.1 C.2.1 hd hv (k p e R s m args below meth cd D T ad adV B lsA H locs cells slots cm sm Qs C hW hS hc hz hcm hzm hl hE)
theorem V.bipush {i : Int} {v : Int32} (hd : decode M.2.1 pc = .ok (.bipush i, 2)) (hv : (Int8.ofInt i).toInt32 = v) (k : V l M d (pc + 2) ls (.int v :: st) h n c z Q) : V l M d pc ls st h n c z Q := by
  intro p e R s m args below meth cd D T ad adV B lsA H locs cells slots cm sm Qs C hW hS hc hz hcm hzm hl hE
  exact lv_bipush C.1 C.2.1 hd hv (k p e R s m args below meth cd D T ad adV B lsA H locs cells slots cm sm Qs C hW hS hc hz hcm hzm hl hE)
theorem V.sipush {i : Int} {v : Int32} (hd : decode M.2.1 pc = .ok (.sipush i, 3)) (hv : (Int16.ofInt i).toInt32 = v) (k : V l M d (pc + 3) ls (.int v :: st) h n c z Q) : V l M d pc ls st h n c z Q := by
  intro p e R s m args below meth cd D T ad adV B lsA H locs cells slots cm sm Qs C hW hS hc hz hcm hzm hl hE
  exact lv_sipush C.1 C.2.1 hd hv (k p e R s m args below meth cd D T ad adV B lsA H locs cells slots cm sm Qs C hW hS hc hz hcm hzm hl hE)
theorem V.lconst {i : Fin 2} {v : Int64} (hd : decode M.2.1 pc = .ok (.lconst i, 1)) (hv : Int64.ofNat (i : Nat) = v) (k : V l M d (pc + 1) ls (.long v :: st) h n c z Q) : V l M d pc ls st h n c z Q := by
  intro p e R s m args below meth cd D T ad adV B lsA H locs cells slots cm sm Qs C hW hS hc hz hcm hzm hl hE
  exact lv_lconst C.1 C.2.1 hd hv (k p e R s m args below meth cd D T ad adV B lsA H locs cells slots cm sm Qs C hW hS hc hz hcm hzm hl hE)
theorem V.ldc {i : Nat} {v : Int32} (hd : decode M.2.1 pc = .ok (.ldc i, 2)) (hv : Cond.constant M.1.cls i v ∈ WG) (k : V l M d (pc + 2) ls (.int v :: st) h n c z Q) : V l M d pc ls st h n c z Q := by
  intro p e R s m args below meth cd D T ad adV B lsA H locs cells slots cm sm Qs C hW hS hc hz hcm hzm hl hE
  exact lv_ldc C.1 C.2.1 C.2.2.2.1 (C.2.2.2.2.1 _ hv) hd (k p e R s m args below meth cd D T ad adV B lsA H locs cells slots cm sm Qs C hW hS hc hz hcm hzm hl hE)
theorem V.ldcw {i : Nat} {v : Int32} (hd : decode M.2.1 pc = .ok (.ldc_w i, 3)) (hv : Cond.constant M.1.cls i v ∈ WG) (k : V l M d (pc + 3) ls (.int v :: st) h n c z Q) : V l M d pc ls st h n c z Q := by
  intro p e R s m args below meth cd D T ad adV B lsA H locs cells slots cm sm Qs C hW hS hc hz hcm hzm hl hE
  exact lv_ldcw C.1 C.2.1 C.2.2.2.1 (C.2.2.2.2.1 _ hv) hd (k p e R s m args below meth cd D T ad adV B lsA H locs cells slots cm sm Qs C hW hS hc hz hcm hzm hl hE)
theorem V.ldc2 {i : Nat} {v : Int64} (hd : decode M.2.1 pc = .ok (.ldc2_w i, 3)) (hv : Cond.constantLong M.1.cls i v ∈ WG) (k : V l M d (pc + 3) ls (.long v :: st) h n c z Q) : V l M d pc ls st h n c z Q := by
  intro p e R s m args below meth cd D T ad adV B lsA H locs cells slots cm sm Qs C hW hS hc hz hcm hzm hl hE
  exact lv_ldc2 C.1 C.2.1 C.2.2.2.1 (C.2.2.2.2.1 _ hv) hd (k p e R s m args below meth cd D T ad adV B lsA H locs cells slots cm sm Qs C hW hS hc hz hcm hzm hl hE)
theorem V.iload_n {i : Fin 4} {x : Int32} (hd : decode M.2.1 pc = .ok (.iload_n i, 1)) (hv : ls[(i : Nat)]? = some (some (.int x))) (k : V l M d (pc + 1) ls (.int x :: st) h n c z Q) : V l M d pc ls st h n c z Q := by
  intro p e R s m args below meth cd D T ad adV B lsA H locs cells slots cm sm Qs C hW hS hc hz hcm hzm hl hE
  exact lv_iload_n C.1 C.2.1 hd rfl (hl.at hv) (k p e R s m args below meth cd D T ad adV B lsA H locs cells slots cm sm Qs C hW hS hc hz hcm hzm hl hE)
theorem V.iload {i : Nat} {x : Int32} (hd : decode M.2.1 pc = .ok (.iload i, 2)) (hv : ls[i]? = some (some (.int x))) (k : V l M d (pc + 2) ls (.int x :: st) h n c z Q) : V l M d pc ls st h n c z Q := by
  intro p e R s m args below meth cd D T ad adV B lsA H locs cells slots cm sm Qs C hW hS hc hz hcm hzm hl hE
  exact lv_iload C.1 C.2.1 hd (hl.at hv) (k p e R s m args below meth cd D T ad adV B lsA H locs cells slots cm sm Qs C hW hS hc hz hcm hzm hl hE)
theorem V.lload_n {i : Fin 4} {x : Int64} (hd : decode M.2.1 pc = .ok (.lload_n i, 1)) (hv : ls[(i : Nat)]? = some (some (.long x))) (k : V l M d (pc + 1) ls (.long x :: st) h n c z Q) : V l M d pc ls st h n c z Q := by
  intro p e R s m args below meth cd D T ad adV B lsA H locs cells slots cm sm Qs C hW hS hc hz hcm hzm hl hE
  exact lv_lload_n C.1 C.2.1 hd rfl (hl.at hv) (k p e R s m args below meth cd D T ad adV B lsA H locs cells slots cm sm Qs C hW hS hc hz hcm hzm hl hE)
theorem V.lload {i : Nat} {x : Int64} (hd : decode M.2.1 pc = .ok (.lload i, 2)) (hv : ls[i]? = some (some (.long x))) (k : V l M d (pc + 2) ls (.long x :: st) h n c z Q) : V l M d pc ls st h n c z Q := by
  intro p e R s m args below meth cd D T ad adV B lsA H locs cells slots cm sm Qs C hW hS hc hz hcm hzm hl hE
  exact lv_lload C.1 C.2.1 hd (hl.at hv) (k p e R s m args below meth cd D T ad adV B lsA H locs cells slots cm sm Qs C hW hS hc hz hcm hzm hl hE)
theorem V.aload_n {i : Fin 4} {x : Nat} (hd : decode M.2.1 pc = .ok (.aload_n i, 1)) (hv : ls[(i : Nat)]? = some (some (.ref x))) (k : V l M d (pc + 1) ls (.ref x :: st) h n c z Q) : V l M d pc ls st h n c z Q := by
  intro p e R s m args below meth cd D T ad adV B lsA H locs cells slots cm sm Qs C hW hS hc hz hcm hzm hl hE
  exact lv_aload_n C.1 C.2.1 hd rfl (hl.at hv) (k p e R s m args below meth cd D T ad adV B lsA H locs cells slots cm sm Qs C hW hS hc hz hcm hzm hl hE)
theorem V.aload {i : Nat} {x : Nat} (hd : decode M.2.1 pc = .ok (.aload i, 2)) (hv : ls[i]? = some (some (.ref x))) (k : V l M d (pc + 2) ls (.ref x :: st) h n c z Q) : V l M d pc ls st h n c z Q := by
  intro p e R s m args below meth cd D T ad adV B lsA H locs cells slots cm sm Qs C hW hS hc hz hcm hzm hl hE
  exact lv_aload C.1 C.2.1 hd (hl.at hv) (k p e R s m args below meth cd D T ad adV B lsA H locs cells slots cm sm Qs C hW hS hc hz hcm hzm hl hE)
theorem V.istore_n {i : Fin 4} {x : Int32} (hd : decode M.2.1 pc = .ok (.istore_n i, 1)) (hi : (i : Nat) < M.2.2.1) (hn : nolong ls = true) (k : V l M d (pc + 1) (ls.set (i : Nat) (some (.int x))) st h n c z Q) : V l M d pc ls (.int x :: st) h n c z Q := by
  intro p e R s m args below meth cd D T ad adV B lsA H locs cells slots cm sm Qs C hW hS hc hz hcm hzm hl hE
  exact lv_istore_n C.1 C.2.1 hd rfl hl hi rfl (fun lsA1 hl1 => (k p e R s m args below meth cd D T ad adV B lsA1 H locs cells slots cm sm Qs C hW hS hc hz hcm hzm (LV.set (v := .int x) hn hl1) hE))
theorem V.istore {i : Nat} {x : Int32} (hd : decode M.2.1 pc = .ok (.istore i, 2)) (hi : i < M.2.2.1) (hn : nolong ls = true) (k : V l M d (pc + 2) (ls.set i (some (.int x))) st h n c z Q) : V l M d pc ls (.int x :: st) h n c z Q := by
  intro p e R s m args below meth cd D T ad adV B lsA H locs cells slots cm sm Qs C hW hS hc hz hcm hzm hl hE
  exact lv_istore C.1 C.2.1 hd hl hi rfl (fun lsA1 hl1 => (k p e R s m args below meth cd D T ad adV B lsA1 H locs cells slots cm sm Qs C hW hS hc hz hcm hzm (LV.set (v := .int x) hn hl1) hE))
theorem V.astore_n {i : Fin 4} {x : Nat} (hd : decode M.2.1 pc = .ok (.astore_n i, 1)) (hi : (i : Nat) < M.2.2.1) (hn : nolong ls = true) (k : V l M d (pc + 1) (ls.set (i : Nat) (some (.ref x))) st h n c z Q) : V l M d pc ls (.ref x :: st) h n c z Q := by
  intro p e R s m args below meth cd D T ad adV B lsA H locs cells slots cm sm Qs C hW hS hc hz hcm hzm hl hE
  exact lv_astore_n C.1 C.2.1 hd rfl hl hi rfl (fun lsA1 hl1 => (k p e R s m args below meth cd D T ad adV B lsA1 H locs cells slots cm sm Qs C hW hS hc hz hcm hzm (LV.set (v := .ref x) hn hl1) hE))
theorem V.astore {i : Nat} {x : Nat} (hd : decode M.2.1 pc = .ok (.astore i, 2)) (hi : i < M.2.2.1) (hn : nolong ls = true) (k : V l M d (pc + 2) (ls.set i (some (.ref x))) st h n c z Q) : V l M d pc ls (.ref x :: st) h n c z Q := by
  intro p e R s m args below meth cd D T ad adV B lsA H locs cells slots cm sm Qs C hW hS hc hz hcm hzm hl hE
  exact lv_astore C.1 C.2.1 hd hl hi rfl (fun lsA1 hl1 => (k p e R s m args below meth cd D T ad adV B lsA1 H locs cells slots cm sm Qs C hW hS hc hz hcm hzm (LV.set (v := .ref x) hn hl1) hE))
theorem V.iinc {i : Nat} {b : Int} {x v : Int32} (hd : decode M.2.1 pc = .ok (.iinc i b, 3)) (hx : ls[i]? = some (some (.int x))) (hv : x + Int32.ofInt b = v) (hi : i < M.2.2.1) (hn : nolong ls = true) (k : V l M d (pc + 3) (ls.set i (some (.int v))) st h n c z Q) : V l M d pc ls st h n c z Q := by
  intro p e R s m args below meth cd D T ad adV B lsA H locs cells slots cm sm Qs C hW hS hc hz hcm hzm hl hE
  obtain ⟨j, hj⟩ := List.getElem?_of_mem ((lvl_mem ad (i, .int x) ls 0).mpr ⟨i, .int x, hx, by rw [Nat.zero_add]; rfl⟩)
  exact lv_iinc C.1 C.2.1 hd hl hj hv hi rfl (fun lsA1 hl1 => (k p e R s m args below meth cd D T ad adV B lsA1 H locs cells slots cm sm Qs C hW hS hc hz hcm hzm (LV.set (v := .int v) hn hl1) hE))
theorem V.iadd {x y : Int32} (hd : decode M.2.1 pc = .ok (.iadd, 1)) (k : V l M d (pc + 1) ls (.int (x + y) :: st) h n c z Q) : V l M d pc ls (.int y :: .int x :: st) h n c z Q := by
  intro p e R s m args below meth cd D T ad adV B lsA H locs cells slots cm sm Qs C hW hS hc hz hcm hzm hl hE
  exact lv_iadd C.1 C.2.1 hd (k p e R s m args below meth cd D T ad adV B lsA H locs cells slots cm sm Qs C hW hS hc hz hcm hzm hl hE)
theorem V.isub {x y : Int32} (hd : decode M.2.1 pc = .ok (.isub, 1)) (k : V l M d (pc + 1) ls (.int (x - y) :: st) h n c z Q) : V l M d pc ls (.int y :: .int x :: st) h n c z Q := by
  intro p e R s m args below meth cd D T ad adV B lsA H locs cells slots cm sm Qs C hW hS hc hz hcm hzm hl hE
  exact lv_isub C.1 C.2.1 hd (k p e R s m args below meth cd D T ad adV B lsA H locs cells slots cm sm Qs C hW hS hc hz hcm hzm hl hE)
theorem V.imul {x y : Int32} (hd : decode M.2.1 pc = .ok (.imul, 1)) (k : V l M d (pc + 1) ls (.int (x * y) :: st) h n c z Q) : V l M d pc ls (.int y :: .int x :: st) h n c z Q := by
  intro p e R s m args below meth cd D T ad adV B lsA H locs cells slots cm sm Qs C hW hS hc hz hcm hzm hl hE
  exact lv_imul C.1 C.2.1 hd (k p e R s m args below meth cd D T ad adV B lsA H locs cells slots cm sm Qs C hW hS hc hz hcm hzm hl hE)
theorem V.iand {x y : Int32} (hd : decode M.2.1 pc = .ok (.iand, 1)) (k : V l M d (pc + 1) ls (.int (x &&& y) :: st) h n c z Q) : V l M d pc ls (.int y :: .int x :: st) h n c z Q := by
  intro p e R s m args below meth cd D T ad adV B lsA H locs cells slots cm sm Qs C hW hS hc hz hcm hzm hl hE
  exact lv_iand C.1 C.2.1 hd (k p e R s m args below meth cd D T ad adV B lsA H locs cells slots cm sm Qs C hW hS hc hz hcm hzm hl hE)
theorem V.ior {x y : Int32} (hd : decode M.2.1 pc = .ok (.ior, 1)) (k : V l M d (pc + 1) ls (.int (x ||| y) :: st) h n c z Q) : V l M d pc ls (.int y :: .int x :: st) h n c z Q := by
  intro p e R s m args below meth cd D T ad adV B lsA H locs cells slots cm sm Qs C hW hS hc hz hcm hzm hl hE
  exact lv_ior C.1 C.2.1 hd (k p e R s m args below meth cd D T ad adV B lsA H locs cells slots cm sm Qs C hW hS hc hz hcm hzm hl hE)
theorem V.ixor {x y : Int32} (hd : decode M.2.1 pc = .ok (.ixor, 1)) (k : V l M d (pc + 1) ls (.int (x ^^^ y) :: st) h n c z Q) : V l M d pc ls (.int y :: .int x :: st) h n c z Q := by
  intro p e R s m args below meth cd D T ad adV B lsA H locs cells slots cm sm Qs C hW hS hc hz hcm hzm hl hE
  exact lv_ixor C.1 C.2.1 hd (k p e R s m args below meth cd D T ad adV B lsA H locs cells slots cm sm Qs C hW hS hc hz hcm hzm hl hE)
theorem V.ishl {x y : Int32} (hd : decode M.2.1 pc = .ok (.ishl, 1)) (k : V l M d (pc + 1) ls (.int (x <<< (y &&& 31)) :: st) h n c z Q) : V l M d pc ls (.int y :: .int x :: st) h n c z Q := by
  intro p e R s m args below meth cd D T ad adV B lsA H locs cells slots cm sm Qs C hW hS hc hz hcm hzm hl hE
  exact lv_ishl C.1 C.2.1 hd (k p e R s m args below meth cd D T ad adV B lsA H locs cells slots cm sm Qs C hW hS hc hz hcm hzm hl hE)
theorem V.ishr {x y : Int32} (hd : decode M.2.1 pc = .ok (.ishr, 1)) (k : V l M d (pc + 1) ls (.int (x >>> (y &&& 31)) :: st) h n c z Q) : V l M d pc ls (.int y :: .int x :: st) h n c z Q := by
  intro p e R s m args below meth cd D T ad adV B lsA H locs cells slots cm sm Qs C hW hS hc hz hcm hzm hl hE
  exact lv_ishr C.1 C.2.1 hd (k p e R s m args below meth cd D T ad adV B lsA H locs cells slots cm sm Qs C hW hS hc hz hcm hzm hl hE)
theorem V.idiv {x y : Int32} (hd : decode M.2.1 pc = .ok (.idiv, 1)) (hy : ¬ y = 0) (k : V l M d (pc + 1) ls (.int (x / y) :: st) h n c z Q) : V l M d pc ls (.int y :: .int x :: st) h n c z Q := by
  intro p e R s m args below meth cd D T ad adV B lsA H locs cells slots cm sm Qs C hW hS hc hz hcm hzm hl hE
  exact lv_idiv C.1 C.2.1 hd hy (k p e R s m args below meth cd D T ad adV B lsA H locs cells slots cm sm Qs C hW hS hc hz hcm hzm hl hE)
theorem V.irem {x y : Int32} (hd : decode M.2.1 pc = .ok (.irem, 1)) (hy : ¬ y = 0) (k : V l M d (pc + 1) ls (.int (x - x / y * y) :: st) h n c z Q) : V l M d pc ls (.int y :: .int x :: st) h n c z Q := by
  intro p e R s m args below meth cd D T ad adV B lsA H locs cells slots cm sm Qs C hW hS hc hz hcm hzm hl hE
  exact lv_irem C.1 C.2.1 hd hy (k p e R s m args below meth cd D T ad adV B lsA H locs cells slots cm sm Qs C hW hS hc hz hcm hzm hl hE)
theorem V.ineg {x : Int32} (hd : decode M.2.1 pc = .ok (.ineg, 1)) (k : V l M d (pc + 1) ls (.int (-x) :: st) h n c z Q) : V l M d pc ls (.int x :: st) h n c z Q := by
  intro p e R s m args below meth cd D T ad adV B lsA H locs cells slots cm sm Qs C hW hS hc hz hcm hzm hl hE
  exact lv_ineg C.1 C.2.1 hd (k p e R s m args below meth cd D T ad adV B lsA H locs cells slots cm sm Qs C hW hS hc hz hcm hzm hl hE)
theorem V.i2l {x : Int32} (hd : decode M.2.1 pc = .ok (.i2l, 1)) (k : V l M d (pc + 1) ls (.long x.toInt64 :: st) h n c z Q) : V l M d pc ls (.int x :: st) h n c z Q := by
  intro p e R s m args below meth cd D T ad adV B lsA H locs cells slots cm sm Qs C hW hS hc hz hcm hzm hl hE
  exact lv_i2l C.1 C.2.1 hd rfl (k p e R s m args below meth cd D T ad adV B lsA H locs cells slots cm sm Qs C hW hS hc hz hcm hzm hl hE)
theorem V.i2b {x : Int32} (hd : decode M.2.1 pc = .ok (.i2b, 1)) (k : V l M d (pc + 1) ls (.int x.toInt8.toInt32 :: st) h n c z Q) : V l M d pc ls (.int x :: st) h n c z Q := by
  intro p e R s m args below meth cd D T ad adV B lsA H locs cells slots cm sm Qs C hW hS hc hz hcm hzm hl hE
  exact lv_i2b C.1 C.2.1 hd rfl (k p e R s m args below meth cd D T ad adV B lsA H locs cells slots cm sm Qs C hW hS hc hz hcm hzm hl hE)
theorem V.i2s {x : Int32} (hd : decode M.2.1 pc = .ok (.i2s, 1)) (k : V l M d (pc + 1) ls (.int x.toInt16.toInt32 :: st) h n c z Q) : V l M d pc ls (.int x :: st) h n c z Q := by
  intro p e R s m args below meth cd D T ad adV B lsA H locs cells slots cm sm Qs C hW hS hc hz hcm hzm hl hE
  exact lv_i2s C.1 C.2.1 hd rfl (k p e R s m args below meth cd D T ad adV B lsA H locs cells slots cm sm Qs C hW hS hc hz hcm hzm hl hE)
theorem V.i2c {x : Int32} (hd : decode M.2.1 pc = .ok (.i2c, 1)) (k : V l M d (pc + 1) ls (.int (x.toUInt32 % 65536).toInt32 :: st) h n c z Q) : V l M d pc ls (.int x :: st) h n c z Q := by
  intro p e R s m args below meth cd D T ad adV B lsA H locs cells slots cm sm Qs C hW hS hc hz hcm hzm hl hE
  exact lv_i2c C.1 C.2.1 hd rfl (k p e R s m args below meth cd D T ad adV B lsA H locs cells slots cm sm Qs C hW hS hc hz hcm hzm hl hE)
theorem V.iushr {x y : Int32} (hd : decode M.2.1 pc = .ok (.iushr, 1)) (k : V l M d (pc + 1) ls (.int (x.toUInt32 >>> (y.toUInt32 &&& Int32.toUInt32 31)).toInt32 :: st) h n c z Q) : V l M d pc ls (.int y :: .int x :: st) h n c z Q := by
  intro p e R s m args below meth cd D T ad adV B lsA H locs cells slots cm sm Qs C hW hS hc hz hcm hzm hl hE
  exact lv_iushr C.1 C.2.1 hd rfl (k p e R s m args below meth cd D T ad adV B lsA H locs cells slots cm sm Qs C hW hS hc hz hcm hzm hl hE)
theorem V.lcmp {x y : Int64} (hd : decode M.2.1 pc = .ok (.lcmp, 1)) (k : V l M d (pc + 1) ls (.int (lg_cmp x y) :: st) h n c z Q) : V l M d pc ls (.long y :: .long x :: st) h n c z Q := by
  intro p e R s m args below meth cd D T ad adV B lsA H locs cells slots cm sm Qs C hW hS hc hz hcm hzm hl hE
  exact W.lcmp C.1 C.2.1 hd (k p e R s m args below meth cd D T ad adV B lsA H locs cells slots cm sm Qs C hW hS hc hz hcm hzm hl hE)
theorem V.null  (hd : decode M.2.1 pc = .ok (.aconst_null, 1)) (k : V l M d (pc + 1) ls (.null :: st) h n c z Q) : V l M d pc ls st h n c z Q := by
  intro p e R s m args below meth cd D T ad adV B lsA H locs cells slots cm sm Qs C hW hS hc hz hcm hzm hl hE
  exact lv_null C.1 C.2.1 hd (k p e R s m args below meth cd D T ad adV B lsA H locs cells slots cm sm Qs C hW hS hc hz hcm hzm hl hE)
theorem V.dup {a : Value} (hd : decode M.2.1 pc = .ok (.dup, 1)) (ha : a.category = 1) (k : V l M d (pc + 1) ls (a :: a :: st) h n c z Q) : V l M d pc ls (a :: st) h n c z Q := by
  intro p e R s m args below meth cd D T ad adV B lsA H locs cells slots cm sm Qs C hW hS hc hz hcm hzm hl hE
  exact lv_dup C.1 C.2.1 hd ((mv_cat ad a).trans ha) (k p e R s m args below meth cd D T ad adV B lsA H locs cells slots cm sm Qs C hW hS hc hz hcm hzm hl hE)
theorem V.pop {a : Value} (hd : decode M.2.1 pc = .ok (.pop, 1)) (ha : a.category = 1) (k : V l M d (pc + 1) ls st h n c z Q) : V l M d pc ls (a :: st) h n c z Q := by
  intro p e R s m args below meth cd D T ad adV B lsA H locs cells slots cm sm Qs C hW hS hc hz hcm hzm hl hE
  exact lv_pop C.1 C.2.1 hd ((mv_cat ad a).trans ha) (k p e R s m args below meth cd D T ad adV B lsA H locs cells slots cm sm Qs C hW hS hc hz hcm hzm hl hE)
theorem V.dup2 {a b : Value} (hd : decode M.2.1 pc = .ok (.dup2, 1)) (ha : a.category = 1) (hb : b.category = 1) (k : V l M d (pc + 1) ls (a :: b :: a :: b :: st) h n c z Q) : V l M d pc ls (a :: b :: st) h n c z Q := by
  intro p e R s m args below meth cd D T ad adV B lsA H locs cells slots cm sm Qs C hW hS hc hz hcm hzm hl hE
  exact lv_dup2_11 C.1 C.2.1 hd ((mv_cat ad a).trans ha) ((mv_cat ad b).trans hb) (k p e R s m args below meth cd D T ad adV B lsA H locs cells slots cm sm Qs C hW hS hc hz hcm hzm hl hE)
theorem V.dup_x1 {a b : Value} (hd : decode M.2.1 pc = .ok (.dup_x1, 1)) (ha : a.category = 1) (hb : b.category = 1) (k : V l M d (pc + 1) ls (a :: b :: a :: st) h n c z Q) : V l M d pc ls (a :: b :: st) h n c z Q := by
  intro p e R s m args below meth cd D T ad adV B lsA H locs cells slots cm sm Qs C hW hS hc hz hcm hzm hl hE
  exact lv_dup_x1 C.1 C.2.1 hd ((mv_cat ad a).trans ha) ((mv_cat ad b).trans hb) (k p e R s m args below meth cd D T ad adV B lsA H locs cells slots cm sm Qs C hW hS hc hz hcm hzm hl hE)
theorem V.if_eq {x : Int32} {off : Int} {tgt : Nat} (hd : decode M.2.1 pc = .ok (.ifCond .eq off, 3)) (ht : (pc : Int) + off = (tgt : Int)) (kt : x = 0 → V l M d tgt ls st h n c z Q) (kf : ¬ x = 0 → V l M d (pc + 3) ls st h n c z Q) : V l M d pc ls (.int x :: st) h n c z Q := by
  intro p e R s m args below meth cd D T ad adV B lsA H locs cells slots cm sm Qs C hW hS hc hz hcm hzm hl hE
  exact lv_if_eq C.1 C.2.1 hd ht (fun q => (kt q p e R s m args below meth cd D T ad adV B lsA H locs cells slots cm sm Qs C hW hS hc hz hcm hzm hl hE)) (fun q => (kf q p e R s m args below meth cd D T ad adV B lsA H locs cells slots cm sm Qs C hW hS hc hz hcm hzm hl hE))
theorem V.icmp_eq {x y : Int32} {off : Int} {tgt : Nat} (hd : decode M.2.1 pc = .ok (.if_icmp .eq off, 3)) (ht : (pc : Int) + off = (tgt : Int)) (kt : x = y → V l M d tgt ls st h n c z Q) (kf : ¬ x = y → V l M d (pc + 3) ls st h n c z Q) : V l M d pc ls (.int y :: .int x :: st) h n c z Q := by
  intro p e R s m args below meth cd D T ad adV B lsA H locs cells slots cm sm Qs C hW hS hc hz hcm hzm hl hE
  exact lv_icmp_eq C.1 C.2.1 hd ht (fun q => (kt q p e R s m args below meth cd D T ad adV B lsA H locs cells slots cm sm Qs C hW hS hc hz hcm hzm hl hE)) (fun q => (kf q p e R s m args below meth cd D T ad adV B lsA H locs cells slots cm sm Qs C hW hS hc hz hcm hzm hl hE))
theorem V.if_ne {x : Int32} {off : Int} {tgt : Nat} (hd : decode M.2.1 pc = .ok (.ifCond .ne off, 3)) (ht : (pc : Int) + off = (tgt : Int)) (kt : ¬ x = 0 → V l M d tgt ls st h n c z Q) (kf : x = 0 → V l M d (pc + 3) ls st h n c z Q) : V l M d pc ls (.int x :: st) h n c z Q := by
  intro p e R s m args below meth cd D T ad adV B lsA H locs cells slots cm sm Qs C hW hS hc hz hcm hzm hl hE
  exact lv_if_ne C.1 C.2.1 hd ht (fun q => (kt q p e R s m args below meth cd D T ad adV B lsA H locs cells slots cm sm Qs C hW hS hc hz hcm hzm hl hE)) (fun q => (kf q p e R s m args below meth cd D T ad adV B lsA H locs cells slots cm sm Qs C hW hS hc hz hcm hzm hl hE))
theorem V.icmp_ne {x y : Int32} {off : Int} {tgt : Nat} (hd : decode M.2.1 pc = .ok (.if_icmp .ne off, 3)) (ht : (pc : Int) + off = (tgt : Int)) (kt : ¬ x = y → V l M d tgt ls st h n c z Q) (kf : x = y → V l M d (pc + 3) ls st h n c z Q) : V l M d pc ls (.int y :: .int x :: st) h n c z Q := by
  intro p e R s m args below meth cd D T ad adV B lsA H locs cells slots cm sm Qs C hW hS hc hz hcm hzm hl hE
  exact lv_icmp_ne C.1 C.2.1 hd ht (fun q => (kt q p e R s m args below meth cd D T ad adV B lsA H locs cells slots cm sm Qs C hW hS hc hz hcm hzm hl hE)) (fun q => (kf q p e R s m args below meth cd D T ad adV B lsA H locs cells slots cm sm Qs C hW hS hc hz hcm hzm hl hE))
theorem V.if_lt {x : Int32} {off : Int} {tgt : Nat} (hd : decode M.2.1 pc = .ok (.ifCond .lt off, 3)) (ht : (pc : Int) + off = (tgt : Int)) (kt : x < 0 → V l M d tgt ls st h n c z Q) (kf : ¬ x < 0 → V l M d (pc + 3) ls st h n c z Q) : V l M d pc ls (.int x :: st) h n c z Q := by
  intro p e R s m args below meth cd D T ad adV B lsA H locs cells slots cm sm Qs C hW hS hc hz hcm hzm hl hE
  exact lv_if_lt C.1 C.2.1 hd ht (fun q => (kt q p e R s m args below meth cd D T ad adV B lsA H locs cells slots cm sm Qs C hW hS hc hz hcm hzm hl hE)) (fun q => (kf q p e R s m args below meth cd D T ad adV B lsA H locs cells slots cm sm Qs C hW hS hc hz hcm hzm hl hE))
theorem V.icmp_lt {x y : Int32} {off : Int} {tgt : Nat} (hd : decode M.2.1 pc = .ok (.if_icmp .lt off, 3)) (ht : (pc : Int) + off = (tgt : Int)) (kt : x < y → V l M d tgt ls st h n c z Q) (kf : ¬ x < y → V l M d (pc + 3) ls st h n c z Q) : V l M d pc ls (.int y :: .int x :: st) h n c z Q := by
  intro p e R s m args below meth cd D T ad adV B lsA H locs cells slots cm sm Qs C hW hS hc hz hcm hzm hl hE
  exact lv_icmp_lt C.1 C.2.1 hd ht (fun q => (kt q p e R s m args below meth cd D T ad adV B lsA H locs cells slots cm sm Qs C hW hS hc hz hcm hzm hl hE)) (fun q => (kf q p e R s m args below meth cd D T ad adV B lsA H locs cells slots cm sm Qs C hW hS hc hz hcm hzm hl hE))
theorem V.if_ge {x : Int32} {off : Int} {tgt : Nat} (hd : decode M.2.1 pc = .ok (.ifCond .ge off, 3)) (ht : (pc : Int) + off = (tgt : Int)) (kt : 0 ≤ x → V l M d tgt ls st h n c z Q) (kf : ¬ 0 ≤ x → V l M d (pc + 3) ls st h n c z Q) : V l M d pc ls (.int x :: st) h n c z Q := by
  intro p e R s m args below meth cd D T ad adV B lsA H locs cells slots cm sm Qs C hW hS hc hz hcm hzm hl hE
  exact lv_if_ge C.1 C.2.1 hd ht (fun q => (kt q p e R s m args below meth cd D T ad adV B lsA H locs cells slots cm sm Qs C hW hS hc hz hcm hzm hl hE)) (fun q => (kf q p e R s m args below meth cd D T ad adV B lsA H locs cells slots cm sm Qs C hW hS hc hz hcm hzm hl hE))
theorem V.icmp_ge {x y : Int32} {off : Int} {tgt : Nat} (hd : decode M.2.1 pc = .ok (.if_icmp .ge off, 3)) (ht : (pc : Int) + off = (tgt : Int)) (kt : y ≤ x → V l M d tgt ls st h n c z Q) (kf : ¬ y ≤ x → V l M d (pc + 3) ls st h n c z Q) : V l M d pc ls (.int y :: .int x :: st) h n c z Q := by
  intro p e R s m args below meth cd D T ad adV B lsA H locs cells slots cm sm Qs C hW hS hc hz hcm hzm hl hE
  exact lv_icmp_ge C.1 C.2.1 hd ht (fun q => (kt q p e R s m args below meth cd D T ad adV B lsA H locs cells slots cm sm Qs C hW hS hc hz hcm hzm hl hE)) (fun q => (kf q p e R s m args below meth cd D T ad adV B lsA H locs cells slots cm sm Qs C hW hS hc hz hcm hzm hl hE))
theorem V.if_gt {x : Int32} {off : Int} {tgt : Nat} (hd : decode M.2.1 pc = .ok (.ifCond .gt off, 3)) (ht : (pc : Int) + off = (tgt : Int)) (kt : 0 < x → V l M d tgt ls st h n c z Q) (kf : ¬ 0 < x → V l M d (pc + 3) ls st h n c z Q) : V l M d pc ls (.int x :: st) h n c z Q := by
  intro p e R s m args below meth cd D T ad adV B lsA H locs cells slots cm sm Qs C hW hS hc hz hcm hzm hl hE
  exact lv_if_gt C.1 C.2.1 hd ht (fun q => (kt q p e R s m args below meth cd D T ad adV B lsA H locs cells slots cm sm Qs C hW hS hc hz hcm hzm hl hE)) (fun q => (kf q p e R s m args below meth cd D T ad adV B lsA H locs cells slots cm sm Qs C hW hS hc hz hcm hzm hl hE))
theorem V.icmp_gt {x y : Int32} {off : Int} {tgt : Nat} (hd : decode M.2.1 pc = .ok (.if_icmp .gt off, 3)) (ht : (pc : Int) + off = (tgt : Int)) (kt : y < x → V l M d tgt ls st h n c z Q) (kf : ¬ y < x → V l M d (pc + 3) ls st h n c z Q) : V l M d pc ls (.int y :: .int x :: st) h n c z Q := by
  intro p e R s m args below meth cd D T ad adV B lsA H locs cells slots cm sm Qs C hW hS hc hz hcm hzm hl hE
  exact lv_icmp_gt C.1 C.2.1 hd ht (fun q => (kt q p e R s m args below meth cd D T ad adV B lsA H locs cells slots cm sm Qs C hW hS hc hz hcm hzm hl hE)) (fun q => (kf q p e R s m args below meth cd D T ad adV B lsA H locs cells slots cm sm Qs C hW hS hc hz hcm hzm hl hE))
theorem V.if_le {x : Int32} {off : Int} {tgt : Nat} (hd : decode M.2.1 pc = .ok (.ifCond .le off, 3)) (ht : (pc : Int) + off = (tgt : Int)) (kt : x ≤ 0 → V l M d tgt ls st h n c z Q) (kf : ¬ x ≤ 0 → V l M d (pc + 3) ls st h n c z Q) : V l M d pc ls (.int x :: st) h n c z Q := by
  intro p e R s m args below meth cd D T ad adV B lsA H locs cells slots cm sm Qs C hW hS hc hz hcm hzm hl hE
  exact lv_if_le C.1 C.2.1 hd ht (fun q => (kt q p e R s m args below meth cd D T ad adV B lsA H locs cells slots cm sm Qs C hW hS hc hz hcm hzm hl hE)) (fun q => (kf q p e R s m args below meth cd D T ad adV B lsA H locs cells slots cm sm Qs C hW hS hc hz hcm hzm hl hE))
theorem V.icmp_le {x y : Int32} {off : Int} {tgt : Nat} (hd : decode M.2.1 pc = .ok (.if_icmp .le off, 3)) (ht : (pc : Int) + off = (tgt : Int)) (kt : x ≤ y → V l M d tgt ls st h n c z Q) (kf : ¬ x ≤ y → V l M d (pc + 3) ls st h n c z Q) : V l M d pc ls (.int y :: .int x :: st) h n c z Q := by
  intro p e R s m args below meth cd D T ad adV B lsA H locs cells slots cm sm Qs C hW hS hc hz hcm hzm hl hE
  exact lv_icmp_le C.1 C.2.1 hd ht (fun q => (kt q p e R s m args below meth cd D T ad adV B lsA H locs cells slots cm sm Qs C hW hS hc hz hcm hzm hl hE)) (fun q => (kf q p e R s m args below meth cd D T ad adV B lsA H locs cells slots cm sm Qs C hW hS hc hz hcm hzm hl hE))
theorem V.goto {off : Int} {tgt : Nat} (hd : decode M.2.1 pc = .ok (.goto off, 3)) (ht : (pc : Int) + off = (tgt : Int)) (k : V l M d tgt ls st h n c z Q) : V l M d pc ls st h n c z Q := by
  intro p e R s m args below meth cd D T ad adV B lsA H locs cells slots cm sm Qs C hW hS hc hz hcm hzm hl hE
  exact lv_goto C.1 C.2.1 hd ht (k p e R s m args below meth cd D T ad adV B lsA H locs cells slots cm sm Qs C hW hS hc hz hcm hzm hl hE)
theorem V.lookup {dflt : Int} {ps : Array (Int × Int)} {len : Nat} {x : Int32} {off : Int} {tgt : Nat} (hd : decode M.2.1 pc = .ok (.lookupswitch dflt ps, len)) (hp : (ps.toList.zip (ps.toList.drop 1)).all (fun (a, next) => a.1 < next.1) = true) (ho : Op.lookupswitch.offset ps.toList dflt x.toInt = off) (ht : (pc : Int) + off = (tgt : Int)) (k : V l M d tgt ls st h n c z Q) : V l M d pc ls (.int x :: st) h n c z Q := by
  intro p e R s m args below meth cd D T ad adV B lsA H locs cells slots cm sm Qs C hW hS hc hz hcm hzm hl hE
  exact lv_lookup C.1 C.2.1 hd hp ho ht (k p e R s m args below meth cd D T ad adV B lsA H locs cells slots cm sm Qs C hW hS hc hz hcm hzm hl hE)
theorem V.tableOut {dflt lo hi : Int} {offs : Array Int} {len : Nat} {x : Int32} {tgt : Nat} (hd : decode M.2.1 pc = .ok (.tableswitch dflt lo hi offs, len)) (hx : x.toInt < lo ∨ hi < x.toInt) (ht : (pc : Int) + dflt = (tgt : Int)) (k : V l M d tgt ls st h n c z Q) : V l M d pc ls (.int x :: st) h n c z Q := by
  intro p e R s m args below meth cd D T ad adV B lsA H locs cells slots cm sm Qs C hW hS hc hz hcm hzm hl hE
  exact lv_tableOut C.1 C.2.1 hd hx ht (k p e R s m args below meth cd D T ad adV B lsA H locs cells slots cm sm Qs C hW hS hc hz hcm hzm hl hE)
theorem V.tableIn {dflt lo hi : Int} {offs : Array Int} {len : Nat} {x : Int32} {off : Int} {tgt : Nat} (hd : decode M.2.1 pc = .ok (.tableswitch dflt lo hi offs, len)) (h1 : ¬ x.toInt < lo) (h2 : ¬ hi < x.toInt) (ho : offs[(x.toInt - lo).toNat]? = some off) (ht : (pc : Int) + off = (tgt : Int)) (k : V l M d tgt ls st h n c z Q) : V l M d pc ls (.int x :: st) h n c z Q := by
  intro p e R s m args below meth cd D T ad adV B lsA H locs cells slots cm sm Qs C hW hS hc hz hcm hzm hl hE
  exact lv_tableIn C.1 C.2.1 hd h1 h2 ho ht (k p e R s m args below meth cd D T ad adV B lsA H locs cells slots cm sm Qs C hW hS hc hz hcm hzm hl hE)
theorem V.iret {v : Int32} {ty : FieldType} (hd : decode M.2.1 pc = .ok (.ireturn, 1)) (hr : M.2.2.2 = some ty) (hv : narrow ty (.int v) = .int v) (hq : Q (some (.int v)) h n) : V l M d pc ls [.int v] h n c z Q := by
  intro p e R s m args below meth cd D T ad adV B lsA H locs cells slots cm sm Qs C hW hS hc hz hcm hzm hl hE
  exact hE pc lsA (some (.int v)) h n H locs cells slots ⟨hd, ty, hr, hv⟩ hq hW hS (by omega) (by omega)
theorem V.lret {v : Int64} (hd : decode M.2.1 pc = .ok (.lreturn, 1)) (hr : M.2.2.2 = some .long) (hq : Q (some (.long v)) h n) : V l M d pc ls [.long v] h n c z Q := by
  intro p e R s m args below meth cd D T ad adV B lsA H locs cells slots cm sm Qs C hW hS hc hz hcm hzm hl hE
  exact hE pc lsA (some (.long v)) h n H locs cells slots ⟨hd, hr⟩ hq hW hS (by omega) (by omega)
theorem V.aret {v : Nat} {C0 : String} (hd : decode M.2.1 pc = .ok (.areturn, 1)) (hr : M.2.2.2 = some (.object C0)) (hq : Q (some (.ref v)) h n) : V l M d pc ls [.ref v] h n c z Q := by
  intro p e R s m args below meth cd D T ad adV B lsA H locs cells slots cm sm Qs C hW hS hc hz hcm hzm hl hE
  exact hE pc lsA (some (.ref v)) h n H locs cells slots ⟨hd, C0, hr⟩ hq hW hS (by omega) (by omega)
theorem V.vret (hd : decode M.2.1 pc = .ok (.return_, 1)) (hr : M.2.2.2 = none) (hq : Q none h n) : V l M d pc ls [] h n c z Q := by
  intro p e R s m args below meth cd D T ad adV B lsA H locs cells slots cm sm Qs C hW hS hc hz hcm hzm hl hE
  exact hE pc lsA none h n H locs cells slots ⟨hd, hr⟩ hq hW hS (by omega) (by omega)
theorem V.topi {x : Int32} (k : ∀ y : Int32, y = x → V l M d pc ls (.int y :: st) h n c z Q) : V l M d pc ls (.int x :: st) h n c z Q := k x rfl
theorem V.mono {Q' : Option Value → MH → Nat → Prop} (hq : ∀ r h' n', Q r h' n' → Q' r h' n') (k : V l M d pc ls st h n c z Q) : V l M d pc ls st h n c z Q' := by
  intro p e R s m args below meth cd D T ad adV B lsA H locs cells slots cm sm Qs C hW hS hc hz hcm hzm hl hE
  exact k p e R s m args below meth cd D T ad adV B lsA H locs cells slots cm sm Qs C hW hS hc hz hcm hzm hl (fun pc1 lsA1 r h1 n1 H1 locs1 cells1 slots1 a1 a2 => hE pc1 lsA1 r h1 n1 H1 locs1 cells1 slots1 a1 (hq _ _ _ a2))
end VR
