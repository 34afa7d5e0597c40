/-- the byte at p -/
def bAt (code : ByteArray) (p : Nat) : Option Nat := if h : p < code.size then some (code[p]'h).toNat else none
theorem bAt_of {code : ByteArray} {bl : List Nat} (hbl : code.data.toList.map UInt8.toNat = bl) {p k : Nat} (h : bl[p]? = some k) : bAt code p = some k := by
  subst hbl
  rw [List.getElem?_map] at h
  cases hq : code.data.toList[p]? with
  | none => rw [hq] at h; cases h
  | some x =>
    rw [hq] at h
    obtain ⟨hl, e⟩ := List.getElem?_eq_some_iff.mp hq
    have hl2 : p < code.size := by
      show p < code.data.size
      rw [← Array.length_toList]; exact hl
    have e2 : code[p]'hl2 = x := by
      show code.data[p]'hl2 = x
      rw [← e, Array.getElem_toList]
    simp only [bAt, hl2, dif_pos]
    rw [e2]
    exact h
theorem u1_run {code : ByteArray} {p k : Nat} (h : bAt code p = some k) : (Reader.u1 : Decoder Nat) code p = .ok (k, p + 1) := by
  by_cases hp : p < code.size
  · simp only [bAt, hp, dif_pos, Option.some.injEq] at h
    subst h
    simp [Reader.u1, MonadReader.read, readThe, MonadReaderOf.read, ReaderT.read, MonadState.get, getThe, MonadStateOf.get, StateT.get, Bind.bind, ReaderT.bind, StateT.bind, Except.bind, Pure.pure, ReaderT.pure, StateT.pure, Except.pure, liftM, monadLift, MonadLift.monadLift, hp, MonadStateOf.set, StateT.set]
  · simp [bAt, hp] at h
theorem dstep {α : Type} {code : ByteArray} {p k : Nat} (f : Nat → Decoder α) (h : bAt code p = some k) : (Bind.bind (Reader.u1 : Decoder Nat) f) code p = f k code (p + 1) := by
  show Except.bind ((Reader.u1 : Decoder Nat) code p) _ = _
  rw [u1_run h]
  rfl
theorem ddec {code : ByteArray} {pc nx : Nat} {i : Instr} (h : (Decoder.instr pc) code pc = .ok (i, nx)) : decode code pc = .ok (i, nx - pc) := by
  show Except.bind ((Decoder.instr pc) code pc) _ = _
  rw [h]
  rfl
theorem u2_run {code : ByteArray} {p a b : Nat} (h1 : bAt code p = some a) (h2 : bAt code (p + 1) = some b) : (Reader.u2 : Decoder Nat) code p = .ok (a * 256 + b, p + 2) := by
  unfold Reader.u2
  rw [dstep _ h1, dstep _ h2]
  rfl
theorem dstep2 {α : Type} {code : ByteArray} {p a b : Nat} (f : Nat → Decoder α) (h1 : bAt code p = some a) (h2 : bAt code (p + 1) = some b) : (Bind.bind (Reader.u2 : Decoder Nat) f) code p = f (a * 256 + b) code (p + 2) := by
  show Except.bind ((Reader.u2 : Decoder Nat) code p) _ = _
  rw [u2_run h1 h2]
  rfl
theorem dstepS {α : Type} {code : ByteArray} {p a b : Nat} {s : Int} (f : Int → Decoder α) (h1 : bAt code p = some a) (h2 : bAt code (p + 1) = some b) (hs : Reader.signed 16 (a * 256 + b) = s) : (Bind.bind (Reader.s2 : Decoder Int) f) code p = f s code (p + 2) := by
  subst hs
  show Except.bind (Except.bind ((Reader.u2 : Decoder Nat) code p) _) _ = _
  rw [u2_run h1 h2]
  rfl
theorem dstepT {α : Type} {code : ByteArray} {p a : Nat} {s : Int} (f : Int → Decoder α) (h1 : bAt code p = some a) (hs : Reader.signed 8 a = s) : (Bind.bind (Reader.s1 : Decoder Int) f) code p = f s code (p + 1) := by
  subst hs
  show Except.bind (Except.bind ((Reader.u1 : Decoder Nat) code p) _) _ = _
  rw [u1_run h1]
  rfl
-- opcodes
set_option maxRecDepth 100000 in
theorem dc_2 {code : ByteArray} {pc : Nat}  (h : bAt code pc = some 2) : decode code pc = .ok ((.iconst (-1)), 1) := by
  have e : (Decoder.instr pc) code pc = .ok ((.iconst (-1)), pc + 1) := by
    unfold Decoder.instr
    exact (dstep _ h).trans rfl
  have e2 := ddec e
  rw [show pc + 1 - pc = 1 by omega] at e2
  exact e2
set_option maxRecDepth 100000 in
theorem dc_3 {code : ByteArray} {pc : Nat}  (h : bAt code pc = some 3) : decode code pc = .ok ((.iconst 0), 1) := by
  have e : (Decoder.instr pc) code pc = .ok ((.iconst 0), pc + 1) := by
    unfold Decoder.instr
    exact (dstep _ h).trans rfl
  have e2 := ddec e
  rw [show pc + 1 - pc = 1 by omega] at e2
  exact e2
set_option maxRecDepth 100000 in
theorem dc_4 {code : ByteArray} {pc : Nat}  (h : bAt code pc = some 4) : decode code pc = .ok ((.iconst 1), 1) := by
  have e : (Decoder.instr pc) code pc = .ok ((.iconst 1), pc + 1) := by
    unfold Decoder.instr
    exact (dstep _ h).trans rfl
  have e2 := ddec e
  rw [show pc + 1 - pc = 1 by omega] at e2
  exact e2
set_option maxRecDepth 100000 in
theorem dc_5 {code : ByteArray} {pc : Nat}  (h : bAt code pc = some 5) : decode code pc = .ok ((.iconst 2), 1) := by
  have e : (Decoder.instr pc) code pc = .ok ((.iconst 2), pc + 1) := by
    unfold Decoder.instr
    exact (dstep _ h).trans rfl
  have e2 := ddec e
  rw [show pc + 1 - pc = 1 by omega] at e2
  exact e2
set_option maxRecDepth 100000 in
theorem dc_6 {code : ByteArray} {pc : Nat}  (h : bAt code pc = some 6) : decode code pc = .ok ((.iconst 3), 1) := by
  have e : (Decoder.instr pc) code pc = .ok ((.iconst 3), pc + 1) := by
    unfold Decoder.instr
    exact (dstep _ h).trans rfl
  have e2 := ddec e
  rw [show pc + 1 - pc = 1 by omega] at e2
  exact e2
set_option maxRecDepth 100000 in
theorem dc_7 {code : ByteArray} {pc : Nat}  (h : bAt code pc = some 7) : decode code pc = .ok ((.iconst 4), 1) := by
  have e : (Decoder.instr pc) code pc = .ok ((.iconst 4), pc + 1) := by
    unfold Decoder.instr
    exact (dstep _ h).trans rfl
  have e2 := ddec e
  rw [show pc + 1 - pc = 1 by omega] at e2
  exact e2
set_option maxRecDepth 100000 in
theorem dc_8 {code : ByteArray} {pc : Nat}  (h : bAt code pc = some 8) : decode code pc = .ok ((.iconst 5), 1) := by
  have e : (Decoder.instr pc) code pc = .ok ((.iconst 5), pc + 1) := by
    unfold Decoder.instr
    exact (dstep _ h).trans rfl
  have e2 := ddec e
  rw [show pc + 1 - pc = 1 by omega] at e2
  exact e2
set_option maxRecDepth 100000 in
theorem dc_9 {code : ByteArray} {pc : Nat}  (h : bAt code pc = some 9) : decode code pc = .ok ((.lconst 0), 1) := by
  have e : (Decoder.instr pc) code pc = .ok ((.lconst 0), pc + 1) := by
    unfold Decoder.instr
    exact (dstep _ h).trans rfl
  have e2 := ddec e
  rw [show pc + 1 - pc = 1 by omega] at e2
  exact e2
set_option maxRecDepth 100000 in
theorem dc_10 {code : ByteArray} {pc : Nat}  (h : bAt code pc = some 10) : decode code pc = .ok ((.lconst 1), 1) := by
  have e : (Decoder.instr pc) code pc = .ok ((.lconst 1), pc + 1) := by
    unfold Decoder.instr
    exact (dstep _ h).trans rfl
  have e2 := ddec e
  rw [show pc + 1 - pc = 1 by omega] at e2
  exact e2
set_option maxRecDepth 100000 in
theorem dc_16 {code : ByteArray} {pc : Nat} {a : Nat} {i : Int} (h1 : bAt code (pc + 1) = some a) (hs : Reader.signed 8 a = i) (h : bAt code pc = some 16) : decode code pc = .ok ((.bipush i), 2) := by
  have e : (Decoder.instr pc) code pc = .ok ((.bipush i), pc + 2) := by
    unfold Decoder.instr
    exact (dstep _ h).trans ((dstepT _ h1 hs).trans rfl)
  have e2 := ddec e
  rw [show pc + 2 - pc = 2 by omega] at e2
  exact e2
set_option maxRecDepth 100000 in
theorem dc_17 {code : ByteArray} {pc : Nat} {a b : Nat} {i : Int} (h1 : bAt code (pc + 1) = some a) (h2 : bAt code (pc + 2) = some b) (hs : Reader.signed 16 (a * 256 + b) = i) (h : bAt code pc = some 17) : decode code pc = .ok ((.sipush i), 3) := by
  have e : (Decoder.instr pc) code pc = .ok ((.sipush i), pc + 3) := by
    unfold Decoder.instr
    exact (dstep _ h).trans ((dstepS _ h1 h2 hs).trans rfl)
  have e2 := ddec e
  rw [show pc + 3 - pc = 3 by omega] at e2
  exact e2
set_option maxRecDepth 100000 in
theorem dc_18 {code : ByteArray} {pc : Nat} {i : Nat} (h1 : bAt code (pc + 1) = some i) (h : bAt code pc = some 18) : decode code pc = .ok ((.ldc i), 2) := by
  have e : (Decoder.instr pc) code pc = .ok ((.ldc i), pc + 2) := by
    unfold Decoder.instr
    exact (dstep _ h).trans ((dstep _ h1).trans rfl)
  have e2 := ddec e
  rw [show pc + 2 - pc = 2 by omega] at e2
  exact e2
set_option maxRecDepth 100000 in
theorem dc_19 {code : ByteArray} {pc : Nat} {a b i : Nat} (h1 : bAt code (pc + 1) = some a) (h2 : bAt code (pc + 2) = some b) (hs : a * 256 + b = i) (h : bAt code pc = some 19) : decode code pc = .ok ((.ldc_w i), 3) := by
  have e : (Decoder.instr pc) code pc = .ok ((.ldc_w i), pc + 3) := by
    unfold Decoder.instr
    exact (dstep _ h).trans ((dstep2 _ h1 h2).trans (by rw [hs]; rfl))
  have e2 := ddec e
  rw [show pc + 3 - pc = 3 by omega] at e2
  exact e2
set_option maxRecDepth 100000 in
theorem dc_20 {code : ByteArray} {pc : Nat} {a b i : Nat} (h1 : bAt code (pc + 1) = some a) (h2 : bAt code (pc + 2) = some b) (hs : a * 256 + b = i) (h : bAt code pc = some 20) : decode code pc = .ok ((.ldc2_w i), 3) := by
  have e : (Decoder.instr pc) code pc = .ok ((.ldc2_w i), pc + 3) := by
    unfold Decoder.instr
    exact (dstep _ h).trans ((dstep2 _ h1 h2).trans (by rw [hs]; rfl))
  have e2 := ddec e
  rw [show pc + 3 - pc = 3 by omega] at e2
  exact e2
set_option maxRecDepth 100000 in
theorem dc_21 {code : ByteArray} {pc : Nat} {i : Nat} (h1 : bAt code (pc + 1) = some i) (h : bAt code pc = some 21) : decode code pc = .ok ((.iload i), 2) := by
  have e : (Decoder.instr pc) code pc = .ok ((.iload i), pc + 2) := by
    unfold Decoder.instr
    exact (dstep _ h).trans ((dstep _ h1).trans rfl)
  have e2 := ddec e
  rw [show pc + 2 - pc = 2 by omega] at e2
  exact e2
set_option maxRecDepth 100000 in
theorem dc_22 {code : ByteArray} {pc : Nat} {i : Nat} (h1 : bAt code (pc + 1) = some i) (h : bAt code pc = some 22) : decode code pc = .ok ((.lload i), 2) := by
  have e : (Decoder.instr pc) code pc = .ok ((.lload i), pc + 2) := by
    unfold Decoder.instr
    exact (dstep _ h).trans ((dstep _ h1).trans rfl)
  have e2 := ddec e
  rw [show pc + 2 - pc = 2 by omega] at e2
  exact e2
set_option maxRecDepth 100000 in
theorem dc_25 {code : ByteArray} {pc : Nat} {i : Nat} (h1 : bAt code (pc + 1) = some i) (h : bAt code pc = some 25) : decode code pc = .ok ((.aload i), 2) := by
  have e : (Decoder.instr pc) code pc = .ok ((.aload i), pc + 2) := by
    unfold Decoder.instr
    exact (dstep _ h).trans ((dstep _ h1).trans rfl)
  have e2 := ddec e
  rw [show pc + 2 - pc = 2 by omega] at e2
  exact e2
set_option maxRecDepth 100000 in
theorem dc_26 {code : ByteArray} {pc : Nat}  (h : bAt code pc = some 26) : decode code pc = .ok ((.iload_n 0), 1) := by
  have e : (Decoder.instr pc) code pc = .ok ((.iload_n 0), pc + 1) := by
    unfold Decoder.instr
    exact (dstep _ h).trans rfl
  have e2 := ddec e
  rw [show pc + 1 - pc = 1 by omega] at e2
  exact e2
set_option maxRecDepth 100000 in
theorem dc_27 {code : ByteArray} {pc : Nat}  (h : bAt code pc = some 27) : decode code pc = .ok ((.iload_n 1), 1) := by
  have e : (Decoder.instr pc) code pc = .ok ((.iload_n 1), pc + 1) := by
    unfold Decoder.instr
    exact (dstep _ h).trans rfl
  have e2 := ddec e
  rw [show pc + 1 - pc = 1 by omega] at e2
  exact e2
set_option maxRecDepth 100000 in
theorem dc_28 {code : ByteArray} {pc : Nat}  (h : bAt code pc = some 28) : decode code pc = .ok ((.iload_n 2), 1) := by
  have e : (Decoder.instr pc) code pc = .ok ((.iload_n 2), pc + 1) := by
    unfold Decoder.instr
    exact (dstep _ h).trans rfl
  have e2 := ddec e
  rw [show pc + 1 - pc = 1 by omega] at e2
  exact e2
set_option maxRecDepth 100000 in
theorem dc_29 {code : ByteArray} {pc : Nat}  (h : bAt code pc = some 29) : decode code pc = .ok ((.iload_n 3), 1) := by
  have e : (Decoder.instr pc) code pc = .ok ((.iload_n 3), pc + 1) := by
    unfold Decoder.instr
    exact (dstep _ h).trans rfl
  have e2 := ddec e
  rw [show pc + 1 - pc = 1 by omega] at e2
  exact e2
set_option maxRecDepth 100000 in
theorem dc_30 {code : ByteArray} {pc : Nat}  (h : bAt code pc = some 30) : decode code pc = .ok ((.lload_n 0), 1) := by
  have e : (Decoder.instr pc) code pc = .ok ((.lload_n 0), pc + 1) := by
    unfold Decoder.instr
    exact (dstep _ h).trans rfl
  have e2 := ddec e
  rw [show pc + 1 - pc = 1 by omega] at e2
  exact e2
set_option maxRecDepth 100000 in
theorem dc_32 {code : ByteArray} {pc : Nat}  (h : bAt code pc = some 32) : decode code pc = .ok ((.lload_n 2), 1) := by
  have e : (Decoder.instr pc) code pc = .ok ((.lload_n 2), pc + 1) := by
    unfold Decoder.instr
    exact (dstep _ h).trans rfl
  have e2 := ddec e
  rw [show pc + 1 - pc = 1 by omega] at e2
  exact e2
set_option maxRecDepth 100000 in
theorem dc_42 {code : ByteArray} {pc : Nat}  (h : bAt code pc = some 42) : decode code pc = .ok ((.aload_n 0), 1) := by
  have e : (Decoder.instr pc) code pc = .ok ((.aload_n 0), pc + 1) := by
    unfold Decoder.instr
    exact (dstep _ h).trans rfl
  have e2 := ddec e
  rw [show pc + 1 - pc = 1 by omega] at e2
  exact e2
set_option maxRecDepth 100000 in
theorem dc_43 {code : ByteArray} {pc : Nat}  (h : bAt code pc = some 43) : decode code pc = .ok ((.aload_n 1), 1) := by
  have e : (Decoder.instr pc) code pc = .ok ((.aload_n 1), pc + 1) := by
    unfold Decoder.instr
    exact (dstep _ h).trans rfl
  have e2 := ddec e
  rw [show pc + 1 - pc = 1 by omega] at e2
  exact e2
set_option maxRecDepth 100000 in
theorem dc_44 {code : ByteArray} {pc : Nat}  (h : bAt code pc = some 44) : decode code pc = .ok ((.aload_n 2), 1) := by
  have e : (Decoder.instr pc) code pc = .ok ((.aload_n 2), pc + 1) := by
    unfold Decoder.instr
    exact (dstep _ h).trans rfl
  have e2 := ddec e
  rw [show pc + 1 - pc = 1 by omega] at e2
  exact e2
set_option maxRecDepth 100000 in
theorem dc_45 {code : ByteArray} {pc : Nat}  (h : bAt code pc = some 45) : decode code pc = .ok ((.aload_n 3), 1) := by
  have e : (Decoder.instr pc) code pc = .ok ((.aload_n 3), pc + 1) := by
    unfold Decoder.instr
    exact (dstep _ h).trans rfl
  have e2 := ddec e
  rw [show pc + 1 - pc = 1 by omega] at e2
  exact e2
set_option maxRecDepth 100000 in
theorem dc_46 {code : ByteArray} {pc : Nat}  (h : bAt code pc = some 46) : decode code pc = .ok (.iaload, 1) := by
  have e : (Decoder.instr pc) code pc = .ok (.iaload, pc + 1) := by
    unfold Decoder.instr
    exact (dstep _ h).trans rfl
  have e2 := ddec e
  rw [show pc + 1 - pc = 1 by omega] at e2
  exact e2
set_option maxRecDepth 100000 in
theorem dc_47 {code : ByteArray} {pc : Nat}  (h : bAt code pc = some 47) : decode code pc = .ok (.laload, 1) := by
  have e : (Decoder.instr pc) code pc = .ok (.laload, pc + 1) := by
    unfold Decoder.instr
    exact (dstep _ h).trans rfl
  have e2 := ddec e
  rw [show pc + 1 - pc = 1 by omega] at e2
  exact e2
set_option maxRecDepth 100000 in
theorem dc_50 {code : ByteArray} {pc : Nat}  (h : bAt code pc = some 50) : decode code pc = .ok (.aaload, 1) := by
  have e : (Decoder.instr pc) code pc = .ok (.aaload, pc + 1) := by
    unfold Decoder.instr
    exact (dstep _ h).trans rfl
  have e2 := ddec e
  rw [show pc + 1 - pc = 1 by omega] at e2
  exact e2
set_option maxRecDepth 100000 in
theorem dc_51 {code : ByteArray} {pc : Nat}  (h : bAt code pc = some 51) : decode code pc = .ok (.baload, 1) := by
  have e : (Decoder.instr pc) code pc = .ok (.baload, pc + 1) := by
    unfold Decoder.instr
    exact (dstep _ h).trans rfl
  have e2 := ddec e
  rw [show pc + 1 - pc = 1 by omega] at e2
  exact e2
set_option maxRecDepth 100000 in
theorem dc_54 {code : ByteArray} {pc : Nat} {i : Nat} (h1 : bAt code (pc + 1) = some i) (h : bAt code pc = some 54) : decode code pc = .ok ((.istore i), 2) := by
  have e : (Decoder.instr pc) code pc = .ok ((.istore i), pc + 2) := by
    unfold Decoder.instr
    exact (dstep _ h).trans ((dstep _ h1).trans rfl)
  have e2 := ddec e
  rw [show pc + 2 - pc = 2 by omega] at e2
  exact e2
set_option maxRecDepth 100000 in
theorem dc_55 {code : ByteArray} {pc : Nat} {i : Nat} (h1 : bAt code (pc + 1) = some i) (h : bAt code pc = some 55) : decode code pc = .ok ((.lstore i), 2) := by
  have e : (Decoder.instr pc) code pc = .ok ((.lstore i), pc + 2) := by
    unfold Decoder.instr
    exact (dstep _ h).trans ((dstep _ h1).trans rfl)
  have e2 := ddec e
  rw [show pc + 2 - pc = 2 by omega] at e2
  exact e2
set_option maxRecDepth 100000 in
theorem dc_58 {code : ByteArray} {pc : Nat} {i : Nat} (h1 : bAt code (pc + 1) = some i) (h : bAt code pc = some 58) : decode code pc = .ok ((.astore i), 2) := by
  have e : (Decoder.instr pc) code pc = .ok ((.astore i), pc + 2) := by
    unfold Decoder.instr
    exact (dstep _ h).trans ((dstep _ h1).trans rfl)
  have e2 := ddec e
  rw [show pc + 2 - pc = 2 by omega] at e2
  exact e2
set_option maxRecDepth 100000 in
theorem dc_59 {code : ByteArray} {pc : Nat}  (h : bAt code pc = some 59) : decode code pc = .ok ((.istore_n 0), 1) := by
  have e : (Decoder.instr pc) code pc = .ok ((.istore_n 0), pc + 1) := by
    unfold Decoder.instr
    exact (dstep _ h).trans rfl
  have e2 := ddec e
  rw [show pc + 1 - pc = 1 by omega] at e2
  exact e2
set_option maxRecDepth 100000 in
theorem dc_60 {code : ByteArray} {pc : Nat}  (h : bAt code pc = some 60) : decode code pc = .ok ((.istore_n 1), 1) := by
  have e : (Decoder.instr pc) code pc = .ok ((.istore_n 1), pc + 1) := by
    unfold Decoder.instr
    exact (dstep _ h).trans rfl
  have e2 := ddec e
  rw [show pc + 1 - pc = 1 by omega] at e2
  exact e2
set_option maxRecDepth 100000 in
theorem dc_61 {code : ByteArray} {pc : Nat}  (h : bAt code pc = some 61) : decode code pc = .ok ((.istore_n 2), 1) := by
  have e : (Decoder.instr pc) code pc = .ok ((.istore_n 2), pc + 1) := by
    unfold Decoder.instr
    exact (dstep _ h).trans rfl
  have e2 := ddec e
  rw [show pc + 1 - pc = 1 by omega] at e2
  exact e2
set_option maxRecDepth 100000 in
theorem dc_62 {code : ByteArray} {pc : Nat}  (h : bAt code pc = some 62) : decode code pc = .ok ((.istore_n 3), 1) := by
  have e : (Decoder.instr pc) code pc = .ok ((.istore_n 3), pc + 1) := by
    unfold Decoder.instr
    exact (dstep _ h).trans rfl
  have e2 := ddec e
  rw [show pc + 1 - pc = 1 by omega] at e2
  exact e2
set_option maxRecDepth 100000 in
theorem dc_76 {code : ByteArray} {pc : Nat}  (h : bAt code pc = some 76) : decode code pc = .ok ((.astore_n 1), 1) := by
  have e : (Decoder.instr pc) code pc = .ok ((.astore_n 1), pc + 1) := by
    unfold Decoder.instr
    exact (dstep _ h).trans rfl
  have e2 := ddec e
  rw [show pc + 1 - pc = 1 by omega] at e2
  exact e2
set_option maxRecDepth 100000 in
theorem dc_77 {code : ByteArray} {pc : Nat}  (h : bAt code pc = some 77) : decode code pc = .ok ((.astore_n 2), 1) := by
  have e : (Decoder.instr pc) code pc = .ok ((.astore_n 2), pc + 1) := by
    unfold Decoder.instr
    exact (dstep _ h).trans rfl
  have e2 := ddec e
  rw [show pc + 1 - pc = 1 by omega] at e2
  exact e2
set_option maxRecDepth 100000 in
theorem dc_78 {code : ByteArray} {pc : Nat}  (h : bAt code pc = some 78) : decode code pc = .ok ((.astore_n 3), 1) := by
  have e : (Decoder.instr pc) code pc = .ok ((.astore_n 3), pc + 1) := by
    unfold Decoder.instr
    exact (dstep _ h).trans rfl
  have e2 := ddec e
  rw [show pc + 1 - pc = 1 by omega] at e2
  exact e2
set_option maxRecDepth 100000 in
theorem dc_79 {code : ByteArray} {pc : Nat}  (h : bAt code pc = some 79) : decode code pc = .ok (.iastore, 1) := by
  have e : (Decoder.instr pc) code pc = .ok (.iastore, pc + 1) := by
    unfold Decoder.instr
    exact (dstep _ h).trans rfl
  have e2 := ddec e
  rw [show pc + 1 - pc = 1 by omega] at e2
  exact e2
set_option maxRecDepth 100000 in
theorem dc_80 {code : ByteArray} {pc : Nat}  (h : bAt code pc = some 80) : decode code pc = .ok (.lastore, 1) := by
  have e : (Decoder.instr pc) code pc = .ok (.lastore, pc + 1) := by
    unfold Decoder.instr
    exact (dstep _ h).trans rfl
  have e2 := ddec e
  rw [show pc + 1 - pc = 1 by omega] at e2
  exact e2
set_option maxRecDepth 100000 in
theorem dc_83 {code : ByteArray} {pc : Nat}  (h : bAt code pc = some 83) : decode code pc = .ok (.aastore, 1) := by
  have e : (Decoder.instr pc) code pc = .ok (.aastore, pc + 1) := by
    unfold Decoder.instr
    exact (dstep _ h).trans rfl
  have e2 := ddec e
  rw [show pc + 1 - pc = 1 by omega] at e2
  exact e2
set_option maxRecDepth 100000 in
theorem dc_84 {code : ByteArray} {pc : Nat}  (h : bAt code pc = some 84) : decode code pc = .ok (.bastore, 1) := by
  have e : (Decoder.instr pc) code pc = .ok (.bastore, pc + 1) := by
    unfold Decoder.instr
    exact (dstep _ h).trans rfl
  have e2 := ddec e
  rw [show pc + 1 - pc = 1 by omega] at e2
  exact e2
set_option maxRecDepth 100000 in
theorem dc_87 {code : ByteArray} {pc : Nat}  (h : bAt code pc = some 87) : decode code pc = .ok (.pop, 1) := by
  have e : (Decoder.instr pc) code pc = .ok (.pop, pc + 1) := by
    unfold Decoder.instr
    exact (dstep _ h).trans rfl
  have e2 := ddec e
  rw [show pc + 1 - pc = 1 by omega] at e2
  exact e2
set_option maxRecDepth 100000 in
theorem dc_89 {code : ByteArray} {pc : Nat}  (h : bAt code pc = some 89) : decode code pc = .ok (.dup, 1) := by
  have e : (Decoder.instr pc) code pc = .ok (.dup, pc + 1) := by
    unfold Decoder.instr
    exact (dstep _ h).trans rfl
  have e2 := ddec e
  rw [show pc + 1 - pc = 1 by omega] at e2
  exact e2
set_option maxRecDepth 100000 in
theorem dc_92 {code : ByteArray} {pc : Nat}  (h : bAt code pc = some 92) : decode code pc = .ok (.dup2, 1) := by
  have e : (Decoder.instr pc) code pc = .ok (.dup2, pc + 1) := by
    unfold Decoder.instr
    exact (dstep _ h).trans rfl
  have e2 := ddec e
  rw [show pc + 1 - pc = 1 by omega] at e2
  exact e2
set_option maxRecDepth 100000 in
theorem dc_96 {code : ByteArray} {pc : Nat}  (h : bAt code pc = some 96) : decode code pc = .ok (.iadd, 1) := by
  have e : (Decoder.instr pc) code pc = .ok (.iadd, pc + 1) := by
    unfold Decoder.instr
    exact (dstep _ h).trans rfl
  have e2 := ddec e
  rw [show pc + 1 - pc = 1 by omega] at e2
  exact e2
set_option maxRecDepth 100000 in
theorem dc_100 {code : ByteArray} {pc : Nat}  (h : bAt code pc = some 100) : decode code pc = .ok (.isub, 1) := by
  have e : (Decoder.instr pc) code pc = .ok (.isub, pc + 1) := by
    unfold Decoder.instr
    exact (dstep _ h).trans rfl
  have e2 := ddec e
  rw [show pc + 1 - pc = 1 by omega] at e2
  exact e2
set_option maxRecDepth 100000 in
theorem dc_104 {code : ByteArray} {pc : Nat}  (h : bAt code pc = some 104) : decode code pc = .ok (.imul, 1) := by
  have e : (Decoder.instr pc) code pc = .ok (.imul, pc + 1) := by
    unfold Decoder.instr
    exact (dstep _ h).trans rfl
  have e2 := ddec e
  rw [show pc + 1 - pc = 1 by omega] at e2
  exact e2
set_option maxRecDepth 100000 in
theorem dc_108 {code : ByteArray} {pc : Nat}  (h : bAt code pc = some 108) : decode code pc = .ok (.idiv, 1) := by
  have e : (Decoder.instr pc) code pc = .ok (.idiv, pc + 1) := by
    unfold Decoder.instr
    exact (dstep _ h).trans rfl
  have e2 := ddec e
  rw [show pc + 1 - pc = 1 by omega] at e2
  exact e2
set_option maxRecDepth 100000 in
theorem dc_112 {code : ByteArray} {pc : Nat}  (h : bAt code pc = some 112) : decode code pc = .ok (.irem, 1) := by
  have e : (Decoder.instr pc) code pc = .ok (.irem, pc + 1) := by
    unfold Decoder.instr
    exact (dstep _ h).trans rfl
  have e2 := ddec e
  rw [show pc + 1 - pc = 1 by omega] at e2
  exact e2
set_option maxRecDepth 100000 in
theorem dc_116 {code : ByteArray} {pc : Nat}  (h : bAt code pc = some 116) : decode code pc = .ok (.ineg, 1) := by
  have e : (Decoder.instr pc) code pc = .ok (.ineg, pc + 1) := by
    unfold Decoder.instr
    exact (dstep _ h).trans rfl
  have e2 := ddec e
  rw [show pc + 1 - pc = 1 by omega] at e2
  exact e2
set_option maxRecDepth 100000 in
theorem dc_120 {code : ByteArray} {pc : Nat}  (h : bAt code pc = some 120) : decode code pc = .ok (.ishl, 1) := by
  have e : (Decoder.instr pc) code pc = .ok (.ishl, pc + 1) := by
    unfold Decoder.instr
    exact (dstep _ h).trans rfl
  have e2 := ddec e
  rw [show pc + 1 - pc = 1 by omega] at e2
  exact e2
set_option maxRecDepth 100000 in
theorem dc_122 {code : ByteArray} {pc : Nat}  (h : bAt code pc = some 122) : decode code pc = .ok (.ishr, 1) := by
  have e : (Decoder.instr pc) code pc = .ok (.ishr, pc + 1) := by
    unfold Decoder.instr
    exact (dstep _ h).trans rfl
  have e2 := ddec e
  rw [show pc + 1 - pc = 1 by omega] at e2
  exact e2
set_option maxRecDepth 100000 in
theorem dc_124 {code : ByteArray} {pc : Nat}  (h : bAt code pc = some 124) : decode code pc = .ok (.iushr, 1) := by
  have e : (Decoder.instr pc) code pc = .ok (.iushr, pc + 1) := by
    unfold Decoder.instr
    exact (dstep _ h).trans rfl
  have e2 := ddec e
  rw [show pc + 1 - pc = 1 by omega] at e2
  exact e2
set_option maxRecDepth 100000 in
theorem dc_126 {code : ByteArray} {pc : Nat}  (h : bAt code pc = some 126) : decode code pc = .ok (.iand, 1) := by
  have e : (Decoder.instr pc) code pc = .ok (.iand, pc + 1) := by
    unfold Decoder.instr
    exact (dstep _ h).trans rfl
  have e2 := ddec e
  rw [show pc + 1 - pc = 1 by omega] at e2
  exact e2
set_option maxRecDepth 100000 in
theorem dc_128 {code : ByteArray} {pc : Nat}  (h : bAt code pc = some 128) : decode code pc = .ok (.ior, 1) := by
  have e : (Decoder.instr pc) code pc = .ok (.ior, pc + 1) := by
    unfold Decoder.instr
    exact (dstep _ h).trans rfl
  have e2 := ddec e
  rw [show pc + 1 - pc = 1 by omega] at e2
  exact e2
set_option maxRecDepth 100000 in
theorem dc_130 {code : ByteArray} {pc : Nat}  (h : bAt code pc = some 130) : decode code pc = .ok (.ixor, 1) := by
  have e : (Decoder.instr pc) code pc = .ok (.ixor, pc + 1) := by
    unfold Decoder.instr
    exact (dstep _ h).trans rfl
  have e2 := ddec e
  rw [show pc + 1 - pc = 1 by omega] at e2
  exact e2
set_option maxRecDepth 100000 in
theorem dc_132 {code : ByteArray} {pc : Nat} {i a : Nat} {j : Int} (h1 : bAt code (pc + 1) = some i) (h2 : bAt code (pc + 2) = some a) (hs : Reader.signed 8 a = j) (h : bAt code pc = some 132) : decode code pc = .ok ((.iinc i j), 3) := by
  have e : (Decoder.instr pc) code pc = .ok ((.iinc i j), pc + 3) := by
    unfold Decoder.instr
    exact (dstep _ h).trans ((dstep _ h1).trans ((dstepT _ h2 hs).trans rfl))
  have e2 := ddec e
  rw [show pc + 3 - pc = 3 by omega] at e2
  exact e2
set_option maxRecDepth 100000 in
theorem dc_133 {code : ByteArray} {pc : Nat}  (h : bAt code pc = some 133) : decode code pc = .ok (.i2l, 1) := by
  have e : (Decoder.instr pc) code pc = .ok (.i2l, pc + 1) := by
    unfold Decoder.instr
    exact (dstep _ h).trans rfl
  have e2 := ddec e
  rw [show pc + 1 - pc = 1 by omega] at e2
  exact e2
set_option maxRecDepth 100000 in
theorem dc_145 {code : ByteArray} {pc : Nat}  (h : bAt code pc = some 145) : decode code pc = .ok (.i2b, 1) := by
  have e : (Decoder.instr pc) code pc = .ok (.i2b, pc + 1) := by
    unfold Decoder.instr
    exact (dstep _ h).trans rfl
  have e2 := ddec e
  rw [show pc + 1 - pc = 1 by omega] at e2
  exact e2
set_option maxRecDepth 100000 in
theorem dc_146 {code : ByteArray} {pc : Nat}  (h : bAt code pc = some 146) : decode code pc = .ok (.i2c, 1) := by
  have e : (Decoder.instr pc) code pc = .ok (.i2c, pc + 1) := by
    unfold Decoder.instr
    exact (dstep _ h).trans rfl
  have e2 := ddec e
  rw [show pc + 1 - pc = 1 by omega] at e2
  exact e2
set_option maxRecDepth 100000 in
theorem dc_147 {code : ByteArray} {pc : Nat}  (h : bAt code pc = some 147) : decode code pc = .ok (.i2s, 1) := by
  have e : (Decoder.instr pc) code pc = .ok (.i2s, pc + 1) := by
    unfold Decoder.instr
    exact (dstep _ h).trans rfl
  have e2 := ddec e
  rw [show pc + 1 - pc = 1 by omega] at e2
  exact e2
set_option maxRecDepth 100000 in
theorem dc_148 {code : ByteArray} {pc : Nat}  (h : bAt code pc = some 148) : decode code pc = .ok (.lcmp, 1) := by
  have e : (Decoder.instr pc) code pc = .ok (.lcmp, pc + 1) := by
    unfold Decoder.instr
    exact (dstep _ h).trans rfl
  have e2 := ddec e
  rw [show pc + 1 - pc = 1 by omega] at e2
  exact e2
set_option maxRecDepth 100000 in
theorem dc_153 {code : ByteArray} {pc : Nat} {a b : Nat} {i : Int} (h1 : bAt code (pc + 1) = some a) (h2 : bAt code (pc + 2) = some b) (hs : Reader.signed 16 (a * 256 + b) = i) (h : bAt code pc = some 153) : decode code pc = .ok ((.ifCond .eq i), 3) := by
  have e : (Decoder.instr pc) code pc = .ok ((.ifCond .eq i), pc + 3) := by
    unfold Decoder.instr
    exact (dstep _ h).trans ((dstepS _ h1 h2 hs).trans rfl)
  have e2 := ddec e
  rw [show pc + 3 - pc = 3 by omega] at e2
  exact e2
set_option maxRecDepth 100000 in
theorem dc_154 {code : ByteArray} {pc : Nat} {a b : Nat} {i : Int} (h1 : bAt code (pc + 1) = some a) (h2 : bAt code (pc + 2) = some b) (hs : Reader.signed 16 (a * 256 + b) = i) (h : bAt code pc = some 154) : decode code pc = .ok ((.ifCond .ne i), 3) := by
  have e : (Decoder.instr pc) code pc = .ok ((.ifCond .ne i), pc + 3) := by
    unfold Decoder.instr
    exact (dstep _ h).trans ((dstepS _ h1 h2 hs).trans rfl)
  have e2 := ddec e
  rw [show pc + 3 - pc = 3 by omega] at e2
  exact e2
set_option maxRecDepth 100000 in
theorem dc_155 {code : ByteArray} {pc : Nat} {a b : Nat} {i : Int} (h1 : bAt code (pc + 1) = some a) (h2 : bAt code (pc + 2) = some b) (hs : Reader.signed 16 (a * 256 + b) = i) (h : bAt code pc = some 155) : decode code pc = .ok ((.ifCond .lt i), 3) := by
  have e : (Decoder.instr pc) code pc = .ok ((.ifCond .lt i), pc + 3) := by
    unfold Decoder.instr
    exact (dstep _ h).trans ((dstepS _ h1 h2 hs).trans rfl)
  have e2 := ddec e
  rw [show pc + 3 - pc = 3 by omega] at e2
  exact e2
set_option maxRecDepth 100000 in
theorem dc_156 {code : ByteArray} {pc : Nat} {a b : Nat} {i : Int} (h1 : bAt code (pc + 1) = some a) (h2 : bAt code (pc + 2) = some b) (hs : Reader.signed 16 (a * 256 + b) = i) (h : bAt code pc = some 156) : decode code pc = .ok ((.ifCond .ge i), 3) := by
  have e : (Decoder.instr pc) code pc = .ok ((.ifCond .ge i), pc + 3) := by
    unfold Decoder.instr
    exact (dstep _ h).trans ((dstepS _ h1 h2 hs).trans rfl)
  have e2 := ddec e
  rw [show pc + 3 - pc = 3 by omega] at e2
  exact e2
set_option maxRecDepth 100000 in
theorem dc_157 {code : ByteArray} {pc : Nat} {a b : Nat} {i : Int} (h1 : bAt code (pc + 1) = some a) (h2 : bAt code (pc + 2) = some b) (hs : Reader.signed 16 (a * 256 + b) = i) (h : bAt code pc = some 157) : decode code pc = .ok ((.ifCond .gt i), 3) := by
  have e : (Decoder.instr pc) code pc = .ok ((.ifCond .gt i), pc + 3) := by
    unfold Decoder.instr
    exact (dstep _ h).trans ((dstepS _ h1 h2 hs).trans rfl)
  have e2 := ddec e
  rw [show pc + 3 - pc = 3 by omega] at e2
  exact e2
set_option maxRecDepth 100000 in
theorem dc_158 {code : ByteArray} {pc : Nat} {a b : Nat} {i : Int} (h1 : bAt code (pc + 1) = some a) (h2 : bAt code (pc + 2) = some b) (hs : Reader.signed 16 (a * 256 + b) = i) (h : bAt code pc = some 158) : decode code pc = .ok ((.ifCond .le i), 3) := by
  have e : (Decoder.instr pc) code pc = .ok ((.ifCond .le i), pc + 3) := by
    unfold Decoder.instr
    exact (dstep _ h).trans ((dstepS _ h1 h2 hs).trans rfl)
  have e2 := ddec e
  rw [show pc + 3 - pc = 3 by omega] at e2
  exact e2
set_option maxRecDepth 100000 in
theorem dc_159 {code : ByteArray} {pc : Nat} {a b : Nat} {i : Int} (h1 : bAt code (pc + 1) = some a) (h2 : bAt code (pc + 2) = some b) (hs : Reader.signed 16 (a * 256 + b) = i) (h : bAt code pc = some 159) : decode code pc = .ok ((.if_icmp .eq i), 3) := by
  have e : (Decoder.instr pc) code pc = .ok ((.if_icmp .eq i), pc + 3) := by
    unfold Decoder.instr
    exact (dstep _ h).trans ((dstepS _ h1 h2 hs).trans rfl)
  have e2 := ddec e
  rw [show pc + 3 - pc = 3 by omega] at e2
  exact e2
set_option maxRecDepth 100000 in
theorem dc_160 {code : ByteArray} {pc : Nat} {a b : Nat} {i : Int} (h1 : bAt code (pc + 1) = some a) (h2 : bAt code (pc + 2) = some b) (hs : Reader.signed 16 (a * 256 + b) = i) (h : bAt code pc = some 160) : decode code pc = .ok ((.if_icmp .ne i), 3) := by
  have e : (Decoder.instr pc) code pc = .ok ((.if_icmp .ne i), pc + 3) := by
    unfold Decoder.instr
    exact (dstep _ h).trans ((dstepS _ h1 h2 hs).trans rfl)
  have e2 := ddec e
  rw [show pc + 3 - pc = 3 by omega] at e2
  exact e2
set_option maxRecDepth 100000 in
theorem dc_161 {code : ByteArray} {pc : Nat} {a b : Nat} {i : Int} (h1 : bAt code (pc + 1) = some a) (h2 : bAt code (pc + 2) = some b) (hs : Reader.signed 16 (a * 256 + b) = i) (h : bAt code pc = some 161) : decode code pc = .ok ((.if_icmp .lt i), 3) := by
  have e : (Decoder.instr pc) code pc = .ok ((.if_icmp .lt i), pc + 3) := by
    unfold Decoder.instr
    exact (dstep _ h).trans ((dstepS _ h1 h2 hs).trans rfl)
  have e2 := ddec e
  rw [show pc + 3 - pc = 3 by omega] at e2
  exact e2
set_option maxRecDepth 100000 in
theorem dc_162 {code : ByteArray} {pc : Nat} {a b : Nat} {i : Int} (h1 : bAt code (pc + 1) = some a) (h2 : bAt code (pc + 2) = some b) (hs : Reader.signed 16 (a * 256 + b) = i) (h : bAt code pc = some 162) : decode code pc = .ok ((.if_icmp .ge i), 3) := by
  have e : (Decoder.instr pc) code pc = .ok ((.if_icmp .ge i), pc + 3) := by
    unfold Decoder.instr
    exact (dstep _ h).trans ((dstepS _ h1 h2 hs).trans rfl)
  have e2 := ddec e
  rw [show pc + 3 - pc = 3 by omega] at e2
  exact e2
set_option maxRecDepth 100000 in
theorem dc_163 {code : ByteArray} {pc : Nat} {a b : Nat} {i : Int} (h1 : bAt code (pc + 1) = some a) (h2 : bAt code (pc + 2) = some b) (hs : Reader.signed 16 (a * 256 + b) = i) (h : bAt code pc = some 163) : decode code pc = .ok ((.if_icmp .gt i), 3) := by
  have e : (Decoder.instr pc) code pc = .ok ((.if_icmp .gt i), pc + 3) := by
    unfold Decoder.instr
    exact (dstep _ h).trans ((dstepS _ h1 h2 hs).trans rfl)
  have e2 := ddec e
  rw [show pc + 3 - pc = 3 by omega] at e2
  exact e2
set_option maxRecDepth 100000 in
theorem dc_164 {code : ByteArray} {pc : Nat} {a b : Nat} {i : Int} (h1 : bAt code (pc + 1) = some a) (h2 : bAt code (pc + 2) = some b) (hs : Reader.signed 16 (a * 256 + b) = i) (h : bAt code pc = some 164) : decode code pc = .ok ((.if_icmp .le i), 3) := by
  have e : (Decoder.instr pc) code pc = .ok ((.if_icmp .le i), pc + 3) := by
    unfold Decoder.instr
    exact (dstep _ h).trans ((dstepS _ h1 h2 hs).trans rfl)
  have e2 := ddec e
  rw [show pc + 3 - pc = 3 by omega] at e2
  exact e2
set_option maxRecDepth 100000 in
theorem dc_167 {code : ByteArray} {pc : Nat} {a b : Nat} {i : Int} (h1 : bAt code (pc + 1) = some a) (h2 : bAt code (pc + 2) = some b) (hs : Reader.signed 16 (a * 256 + b) = i) (h : bAt code pc = some 167) : decode code pc = .ok ((.goto i), 3) := by
  have e : (Decoder.instr pc) code pc = .ok ((.goto i), pc + 3) := by
    unfold Decoder.instr
    exact (dstep _ h).trans ((dstepS _ h1 h2 hs).trans rfl)
  have e2 := ddec e
  rw [show pc + 3 - pc = 3 by omega] at e2
  exact e2
set_option maxRecDepth 100000 in
theorem dc_172 {code : ByteArray} {pc : Nat}  (h : bAt code pc = some 172) : decode code pc = .ok (.ireturn, 1) := by
  have e : (Decoder.instr pc) code pc = .ok (.ireturn, pc + 1) := by
    unfold Decoder.instr
    exact (dstep _ h).trans rfl
  have e2 := ddec e
  rw [show pc + 1 - pc = 1 by omega] at e2
  exact e2
set_option maxRecDepth 100000 in
theorem dc_173 {code : ByteArray} {pc : Nat}  (h : bAt code pc = some 173) : decode code pc = .ok (.lreturn, 1) := by
  have e : (Decoder.instr pc) code pc = .ok (.lreturn, pc + 1) := by
    unfold Decoder.instr
    exact (dstep _ h).trans rfl
  have e2 := ddec e
  rw [show pc + 1 - pc = 1 by omega] at e2
  exact e2
set_option maxRecDepth 100000 in
theorem dc_176 {code : ByteArray} {pc : Nat}  (h : bAt code pc = some 176) : decode code pc = .ok (.areturn, 1) := by
  have e : (Decoder.instr pc) code pc = .ok (.areturn, pc + 1) := by
    unfold Decoder.instr
    exact (dstep _ h).trans rfl
  have e2 := ddec e
  rw [show pc + 1 - pc = 1 by omega] at e2
  exact e2
set_option maxRecDepth 100000 in
theorem dc_177 {code : ByteArray} {pc : Nat}  (h : bAt code pc = some 177) : decode code pc = .ok (.return_, 1) := by
  have e : (Decoder.instr pc) code pc = .ok (.return_, pc + 1) := by
    unfold Decoder.instr
    exact (dstep _ h).trans rfl
  have e2 := ddec e
  rw [show pc + 1 - pc = 1 by omega] at e2
  exact e2
set_option maxRecDepth 100000 in
theorem dc_178 {code : ByteArray} {pc : Nat} {a b i : Nat} (h1 : bAt code (pc + 1) = some a) (h2 : bAt code (pc + 2) = some b) (hs : a * 256 + b = i) (h : bAt code pc = some 178) : decode code pc = .ok ((.getstatic i), 3) := by
  have e : (Decoder.instr pc) code pc = .ok ((.getstatic i), pc + 3) := by
    unfold Decoder.instr
    exact (dstep _ h).trans ((dstep2 _ h1 h2).trans (by rw [hs]; rfl))
  have e2 := ddec e
  rw [show pc + 3 - pc = 3 by omega] at e2
  exact e2
set_option maxRecDepth 100000 in
theorem dc_180 {code : ByteArray} {pc : Nat} {a b i : Nat} (h1 : bAt code (pc + 1) = some a) (h2 : bAt code (pc + 2) = some b) (hs : a * 256 + b = i) (h : bAt code pc = some 180) : decode code pc = .ok ((.getfield i), 3) := by
  have e : (Decoder.instr pc) code pc = .ok ((.getfield i), pc + 3) := by
    unfold Decoder.instr
    exact (dstep _ h).trans ((dstep2 _ h1 h2).trans (by rw [hs]; rfl))
  have e2 := ddec e
  rw [show pc + 3 - pc = 3 by omega] at e2
  exact e2
set_option maxRecDepth 100000 in
theorem dc_181 {code : ByteArray} {pc : Nat} {a b i : Nat} (h1 : bAt code (pc + 1) = some a) (h2 : bAt code (pc + 2) = some b) (hs : a * 256 + b = i) (h : bAt code pc = some 181) : decode code pc = .ok ((.putfield i), 3) := by
  have e : (Decoder.instr pc) code pc = .ok ((.putfield i), pc + 3) := by
    unfold Decoder.instr
    exact (dstep _ h).trans ((dstep2 _ h1 h2).trans (by rw [hs]; rfl))
  have e2 := ddec e
  rw [show pc + 3 - pc = 3 by omega] at e2
  exact e2
set_option maxRecDepth 100000 in
theorem dc_182 {code : ByteArray} {pc : Nat} {a b i : Nat} (h1 : bAt code (pc + 1) = some a) (h2 : bAt code (pc + 2) = some b) (hs : a * 256 + b = i) (h : bAt code pc = some 182) : decode code pc = .ok ((.invokevirtual i), 3) := by
  have e : (Decoder.instr pc) code pc = .ok ((.invokevirtual i), pc + 3) := by
    unfold Decoder.instr
    exact (dstep _ h).trans ((dstep2 _ h1 h2).trans (by rw [hs]; rfl))
  have e2 := ddec e
  rw [show pc + 3 - pc = 3 by omega] at e2
  exact e2
set_option maxRecDepth 100000 in
theorem dc_183 {code : ByteArray} {pc : Nat} {a b i : Nat} (h1 : bAt code (pc + 1) = some a) (h2 : bAt code (pc + 2) = some b) (hs : a * 256 + b = i) (h : bAt code pc = some 183) : decode code pc = .ok ((.invokespecial i), 3) := by
  have e : (Decoder.instr pc) code pc = .ok ((.invokespecial i), pc + 3) := by
    unfold Decoder.instr
    exact (dstep _ h).trans ((dstep2 _ h1 h2).trans (by rw [hs]; rfl))
  have e2 := ddec e
  rw [show pc + 3 - pc = 3 by omega] at e2
  exact e2
set_option maxRecDepth 100000 in
theorem dc_184 {code : ByteArray} {pc : Nat} {a b i : Nat} (h1 : bAt code (pc + 1) = some a) (h2 : bAt code (pc + 2) = some b) (hs : a * 256 + b = i) (h : bAt code pc = some 184) : decode code pc = .ok ((.invokestatic i), 3) := by
  have e : (Decoder.instr pc) code pc = .ok ((.invokestatic i), pc + 3) := by
    unfold Decoder.instr
    exact (dstep _ h).trans ((dstep2 _ h1 h2).trans (by rw [hs]; rfl))
  have e2 := ddec e
  rw [show pc + 3 - pc = 3 by omega] at e2
  exact e2
set_option maxRecDepth 100000 in
theorem dc_187 {code : ByteArray} {pc : Nat} {a b i : Nat} (h1 : bAt code (pc + 1) = some a) (h2 : bAt code (pc + 2) = some b) (hs : a * 256 + b = i) (h : bAt code pc = some 187) : decode code pc = .ok ((.new i), 3) := by
  have e : (Decoder.instr pc) code pc = .ok ((.new i), pc + 3) := by
    unfold Decoder.instr
    exact (dstep _ h).trans ((dstep2 _ h1 h2).trans (by rw [hs]; rfl))
  have e2 := ddec e
  rw [show pc + 3 - pc = 3 by omega] at e2
  exact e2
set_option maxRecDepth 100000 in
theorem dc_189 {code : ByteArray} {pc : Nat} {a b i : Nat} (h1 : bAt code (pc + 1) = some a) (h2 : bAt code (pc + 2) = some b) (hs : a * 256 + b = i) (h : bAt code pc = some 189) : decode code pc = .ok ((.anewarray i), 3) := by
  have e : (Decoder.instr pc) code pc = .ok ((.anewarray i), pc + 3) := by
    unfold Decoder.instr
    exact (dstep _ h).trans ((dstep2 _ h1 h2).trans (by rw [hs]; rfl))
  have e2 := ddec e
  rw [show pc + 3 - pc = 3 by omega] at e2
  exact e2
set_option maxRecDepth 100000 in
theorem dc_190 {code : ByteArray} {pc : Nat}  (h : bAt code pc = some 190) : decode code pc = .ok (.arraylength, 1) := by
  have e : (Decoder.instr pc) code pc = .ok (.arraylength, pc + 1) := by
    unfold Decoder.instr
    exact (dstep _ h).trans rfl
  have e2 := ddec e
  rw [show pc + 1 - pc = 1 by omega] at e2
  exact e2
set_option maxRecDepth 100000 in
theorem dc_191 {code : ByteArray} {pc : Nat}  (h : bAt code pc = some 191) : decode code pc = .ok (.athrow, 1) := by
  have e : (Decoder.instr pc) code pc = .ok (.athrow, pc + 1) := by
    unfold Decoder.instr
    exact (dstep _ h).trans rfl
  have e2 := ddec e
  rw [show pc + 1 - pc = 1 by omega] at e2
  exact e2
