/-! THE SMALL MACHINE. The cells that class and reference make have places 0, 1, 2 .. in the order in which they are made; place k lies at address B + k. A picture h says what each place holds (an object: number of its class, fields; a row: kind, length, contents), references in it are places. V says of a method M, standing at pc with locals ls and stack st over the picture h of n places: it returns, and Q holds of the answer, the new picture and its size. -/
abbrev MC : Type := (Nat × vp_A) ⊕ (Nat × List Value)
abbrev MH : Type := Nat → Option MC
abbrev MT : Type := MethodName × ByteArray × Nat × Option FieldType
abbrev classes : List vw_C := [(RX0, TX0, 8), (RX1, TX1, 3), (RX2, TX2, 2), (RX3, TX3, 6), (RX4, TX4, 14), (RX5, TX5, 7), (RX6, TX6, 20)]
def tyl (T : Nat → ClassId) : List (ClassId × FieldType) := [(T 0, .int), (T 1, .boolean), (T 2, .long), (T 3, .object "TwoFlags$Player"), (T 4, .object "TwoFlags$Shelf")]
def mv (ad : Nat → Nat) : Value → Value
  | .ref k => .ref (ad k)
  | v => v
def me (T : Nat → ClassId) (ad : Nat → Nat) : MC → va_E
  | .inl (t, n, .inl f) => .inl (T t, n, .inl f)
  | .inl (t, n, .inr (.inl f)) => .inl (T t, n, .inr (.inl f))
  | .inl (t, n, .inr (.inr (.inl f))) => .inl (T t, n, .inr (.inr (.inl f)))
  | .inl (t, n, .inr (.inr (.inr (.inl f)))) => .inl (T t, n, .inr (.inr (.inr (.inl f))))
  | .inl (t, n, .inr (.inr (.inr (.inr f)))) => .inl (T t, n, .inr (.inr (.inr (.inr (fun j => (f j).map ad)))))
  | .inr (ci, fs) => .inr (ci, fs.map (mv ad))
/-- the heap H shows the picture -/
def Wd (D : va_G) (T : Nat → ClassId) (ad : Nat → Nat) (B : Nat) (h : MH) (n : Nat) (H : Heap) : Prop :=
  H.size = B + n ∧ n < 1000000 ∧ ∀ (k : Nat) (x : MC), h k = some x → k < n ∧ va_at D classes (ad k, me T ad x) H
def WG : List Cond := lw_tbl.filter goodWord
theorem inW {w : Cond} (i : Nat) (h : lw_tbl[i]? = some w) (hg : goodWord w = true) : w ∈ WG := List.mem_filter.mpr ⟨List.mem_of_getElem? h, hg⟩
def isNL : Cond → Bool
  | .methodLinkNest .. | .declares _ | .castable .. => true
  | _ => false
def NL : List Cond := lw_tbl.filter isNL
theorem inNL {w : Cond} (i : Nat) (h : lw_tbl[i]? = some w) (hg : isNL w = true) : w ∈ NL := List.mem_filter.mpr ⟨List.mem_of_getElem? h, hg⟩
def KC (D : va_G) (T : Nat → ClassId) (U : State) : Prop := va_K D classes (tyl T) U ∧ (∀ w ∈ NL, va_Nw w U) ∧ va_AO "TwoFlags$Shelf" U ∧ va_AO "TwoFlags$Player" U
theorem nl_on {w : Cond} (h : w ∈ NL) : w.onTables = true := by
  have h2 := (List.mem_filter.mp h).2
  cases w <;> first | rfl | (simp [isNL] at h2)
theorem KC.same {D : va_G} {T : Nat → ClassId} {u U : State} (hv : u.vm = U.vm) (h : KC D T u) : KC D T U := by
  have hal : u.vm.Alike U.vm := hv ▸ Vm.Alike.refl u.vm
  exact ⟨h.1.moved hal, fun w hw => va_Nw.same (nl_on hw) hv (h.2.1 w hw), h.2.2.1.moved hal, h.2.2.2.moved hal⟩
theorem KC.warm {D : va_G} {T : Nat → ClassId} {u U : State} (hW : u.WarmedH U.vm) (h : KC D T u) : KC D T U := by
  refine ⟨h.1.moved hW.alike, fun w hw => ?_, h.2.2.1.moved hW.alike, h.2.2.2.moved hW.alike⟩
  have h1 := h.2.1 w hw
  have h2 := (List.mem_filter.mp hw).2
  cases w <;> first | exact va_Nw.warmM hW h1 | exact va_Nw.warmD hW h1 | exact va_Nw.warmC hW h1 | (simp [isNL] at h2)
/-- the String constants, by their numbers -/
def sOwn : Nat → String := fun i => if i < 6 then "TwoFlags$Reader" else if i = 6 then "TwoFlags$Shelf" else "TwoFlags"
def sIdx : Nat → Nat := fun i => ([61, 63, 65, 67, 69, 71, 40, 280, 287] : List Nat).getD i 0
def sTx : Nat → String := fun i => (["dcr?", "d", "n", "dddcr", "dddd", "", "the failure of a role", "no such shelf", "no row, or no such place"] : List String).getD i ""
def bytS : List (List Int32) := [[100, 99, 114, 63], [100], [110], [100, 100, 100, 99, 114], [100, 100, 100, 100], [], [], [], []]
def lenS : List Nat := [4, 1, 1, 5, 4, 0, 0, 0, 0]
/-- what lies in the heap from the beginning and stays: constants, statics -/
def XF (ad adV : Nat → Nat) (B : Nat) (U : State) (H : Heap) : Prop :=
  vk_S 6 lenS bytS (fun i => ad (1000000 + i)) adV (fun q => B ≤ q) U H ∧ (∀ i, i < 9 → vk_R (sOwn i) (sIdx i) (sTx i) (ad (1000000 + i)) U) ∧
  va_Z "java/lang/String" "COMPACT_STRINGS" "Z" (.int 1) (fun q => B ≤ q) U H ∧ (va_Z "jdk/internal/util/Preconditions" "SIOOBE_FORMATTER" "Ljava/util/function/BiFunction;" .null (fun q => B ≤ q) U H ∨ va_Z "jdk/internal/util/Preconditions" "SIOOBE_FORMATTER" "Ljava/util/function/BiFunction;" (.ref (ad 3000000)) (fun q => B ≤ q) U H) ∧
  vx_Zq Bundle.tN "UNASSIGNED_STACK" Bundle.steD (fun q => B ≤ q) U H ∧ vx_Zq Bundle.tN "SUPPRESSED_SENTINEL" Bundle.listD (fun q => B ≤ q) U H ∧
  va_Nc "java/lang/IllegalStateException" "java/lang/IllegalArgumentException" U ∧ ∀ i, i < 6 → adV i = ad (2000000 + i)
theorem XF.kept {ad adV : Nat → Nat} {B : Nat} {U : State} {H H1 : Heap} (h : XF ad adV B U H) (hq : ∀ a : Nat, a < H.size → ¬ B ≤ a → H1[a]? = H[a]?) : XF ad adV B U H1 :=
  ⟨h.1.kept hq, h.2.1, h.2.2.1.kept hq, h.2.2.2.1.imp (fun z => z.kept hq) (fun z => z.kept hq), h.2.2.2.2.1.kept hq, h.2.2.2.2.2.1.kept hq, h.2.2.2.2.2.2.1, h.2.2.2.2.2.2.2⟩
theorem XF.same {ad adV : Nat → Nat} {B : Nat} {u U : State} {H : Heap} (hv : u.vm = U.vm) (h : XF ad adV B u H) : XF ad adV B U H := by
  have hal : u.vm.Alike U.vm := hv ▸ Vm.Alike.refl u.vm
  exact ⟨h.1.moved hal, fun i hi => (h.2.1 i hi).same hv.symm, h.2.2.1.moved hal, h.2.2.2.1.imp (fun z => z.moved hal) (fun z => z.moved hal), h.2.2.2.2.1.moved hal, h.2.2.2.2.2.1.moved hal, h.2.2.2.2.2.2.1.moved hal, h.2.2.2.2.2.2.2⟩
theorem XF.warm {ad adV : Nat → Nat} {B : Nat} {u U : State} {H : Heap} (hW : u.WarmedH U.vm) (h : XF ad adV B u H) : XF ad adV B U H :=
  ⟨h.1.moved hW.alike, fun i hi => (h.2.1 i hi).warm hW, h.2.2.1.moved hW.alike, h.2.2.2.1.imp (fun z => z.moved hW.alike) (fun z => z.moved hW.alike), h.2.2.2.2.1.moved hW.alike, h.2.2.2.2.2.1.moved hW.alike, h.2.2.2.2.2.2.1.moved hW.alike, h.2.2.2.2.2.2.2⟩
/-- locals, by their numbers -/
def lvl (ad : Nat → Nat) : Nat → List (Option Value) → List (Nat × Value)
  | _, [] => []
  | i, none :: r => lvl ad (i + 1) r
  | i, some v :: r => (i, mv ad v) :: lvl ad (i + 1) r
theorem lvl_mem (ad : Nat → Nat) (q : Nat × Value) : ∀ (ls : List (Option Value)) (k : Nat), q ∈ lvl ad k ls ↔ ∃ (j : Nat) (v : Value), ls[j]? = some (some v) ∧ q = (k + j, mv ad v) := by
  intro ls
  induction ls with
  | nil => intro k; simp [lvl]
  | cons o r ih =>
    intro k
    cases o with
    | none =>
      rw [show lvl ad k (none :: r) = lvl ad (k + 1) r from rfl, ih]
      constructor
      · rintro ⟨j, v, h1, h2⟩
        exact ⟨j + 1, v, by simpa using h1, by rw [h2, show k + 1 + j = k + (j + 1) by omega]⟩
      · rintro ⟨j, v, h1, h2⟩
        cases j with
        | zero => simp at h1
        | succ j => exact ⟨j, v, by simpa using h1, by rw [h2, show k + 1 + j = k + (j + 1) by omega]⟩
    | some w =>
      rw [show lvl ad k (some w :: r) = (k, mv ad w) :: lvl ad (k + 1) r from rfl, List.mem_cons, ih]
      constructor
      · rintro (h | ⟨j, v, h1, h2⟩)
        · exact ⟨0, w, rfl, by rw [h]; rfl⟩
        · exact ⟨j + 1, v, by simpa using h1, by rw [h2, show k + 1 + j = k + (j + 1) by omega]⟩
      · rintro ⟨j, v, h1, h2⟩
        cases j with
        | zero =>
          simp at h1
          subst h1
          exact Or.inl h2
        | succ j => exact Or.inr ⟨j, v, by simpa using h1, by rw [h2, show k + 1 + j = k + (j + 1) by omega]⟩
def LV (lsA : Array Slot) (nL : Nat) (ad : Nat → Nat) (ls : List (Option Value)) : Prop := lv_has lsA nL (lvl ad 0 ls)
theorem LV.at {lsA : Array Slot} {nL : Nat} {ad : Nat → Nat} {ls : List (Option Value)} (h : LV lsA nL ad ls) {i : Nat} {v : Value} (hi : ls[i]? = some (some v)) : lsA[i]? = some (.val (mv ad v)) :=
  h.2.2 (i, mv ad v) ((lvl_mem ad _ ls 0).mpr ⟨i, v, hi, by rw [Nat.zero_add]⟩)
def nolong (ls : List (Option Value)) : Bool := ls.all (fun o => match o with | some v => v.category == 1 | none => true)
theorem mv_cat (ad : Nat → Nat) (v : Value) : (mv ad v).category = v.category := by cases v <;> rfl
theorem LV.set {lsA : Array Slot} {nL : Nat} {ad : Nat → Nat} {ls : List (Option Value)} {i : Nat} {v : Value} (hn : nolong ls = true)
    (h : lv_has lsA nL ((i, mv ad v) :: (lvl ad 0 ls).filter (fun q => !(q.1 == i) && !(q.1 + 1 == i && q.2.category == 2)))) : LV lsA nL ad (ls.set i (some v)) := by
  refine ⟨h.1, h.2.1, fun q hq => h.2.2 q ?_⟩
  obtain ⟨j, w, h1, h2⟩ := (lvl_mem ad q _ 0).mp hq
  rw [Nat.zero_add] at h2
  subst h2
  rw [List.getElem?_set] at h1
  by_cases hij : i = j
  · subst hij
    rw [if_pos rfl] at h1
    split at h1
    · have := Option.some.inj (Option.some.inj h1)
      subst this
      exact List.mem_cons_self
    · cases h1
  · rw [if_neg hij] at h1
    refine List.mem_cons_of_mem _ (List.mem_filter.mpr ⟨(lvl_mem ad _ ls 0).mpr ⟨j, w, h1, by rw [Nat.zero_add]⟩, ?_⟩)
    have hc := List.all_eq_true.mp hn _ (List.mem_of_getElem? h1)
    simp only [beq_iff_eq] at hc
    have hji : ¬ j = i := fun e => hij e.symm
    simp [mv_cat, hc, hji]
/-- what a method's context gives -/
def Cx (l : Launch) (M : MT) (d : Nat) (p : Program) (R : Room) (s : State) (m : MethodId) (args : Array Value) (meth : Method) (cd : Code) (D : va_G) (T : Nat → ClassId) (ad adV : Nat → Nat) (B : Nat) : Prop :=
  p.tables.exec = Jvm.exec ∧ cd.code = M.2.1 ∧ cd.maxLocals = M.2.2.1 ∧ s.vm.findClass M.1.cls = some m.cls ∧ (∀ w ∈ WG, w.before args s = true) ∧ KC D T s ∧ XF ad adV B s s.heap ∧ (∀ k, k < 1000000 → ad k = B + k) ∧ B ≤ s.heap.size ∧ d ≤ R.frames ∧ 40 * d ≤ R.locals ∧ (M.1.name = "<init>" → meth.name = "<init>") ∧ l.stackTraces = false
/-- a return that fits -/
def Rt (cc : ByteArray) (ret : Option FieldType) (pc : Nat) : Option Value → Prop
  | none => decode cc pc = .ok (.return_, 1) ∧ ret = none
  | some (.int v) => decode cc pc = .ok (.ireturn, 1) ∧ ∃ ty, ret = some ty ∧ narrow ty (.int v) = .int v
  | some (.long _) => decode cc pc = .ok (.lreturn, 1) ∧ ret = some .long
  | some (.ref _) => decode cc pc = .ok (.areturn, 1) ∧ ∃ C, ret = some (.object C)
  | _ => False
/-- where a method ends -/
def En (l : Launch) (M : MT) (Q : Option Value → MH → Nat → Prop) (p : Program) (e : Env) (R : Room) (s : State) (m : MethodId) (args : Array Value) (below : List Frame) (meth : Method) (cd : Code) (D : va_G) (T : Nat → ClassId) (ad : Nat → Nat) (B cm sm : Nat) (Qs : State → Prop) : Prop :=
  ∀ (pc : Nat) (lsA : Array Slot) (r : Option Value) (h : MH) (n : Nat) (H : Heap) (locs : List Loc) (cells slots : Nat), Rt M.2.1 M.2.2.2 pc r → Q r h n → Wd D T ad B h n H → va_S (fun q => B ≤ q) s.heap H locs → cells ≤ cm → slots ≤ sm →
    W p l e R s m args below meth cd H locs cells slots Qs (F0 m pc lsA ((r.map (mv ad)).toList))
def V (l : Launch) (M : MT) (d pc : Nat) (ls : List (Option Value)) (st : List Value) (h : MH) (n c z : Nat) (Q : Option Value → MH → Nat → Prop) : Prop :=
  ∀ (p : Program) (e : Env) (R : Room) (s : State) (m : MethodId) (args : Array Value) (below : List Frame) (meth : Method) (cd : Code) (D : va_G) (T : Nat → ClassId) (ad adV : Nat → Nat) (B : Nat) (lsA : Array Slot) (H : Heap) (locs : List Loc) (cells slots cm sm : Nat) (Qs : State → Prop),
    Cx l M d p R s m args meth cd D T ad adV B → Wd D T ad B h n H → va_S (fun q => B ≤ q) s.heap H locs → cells + c ≤ cm → slots + z ≤ sm → cm ≤ R.cells → sm ≤ R.slots → LV lsA M.2.2.1 ad ls → En l M Q p e R s m args below meth cd D T ad B cm sm Qs →
    W p l e R s m args below meth cd H locs cells slots Qs (F0 m pc lsA (st.map (mv ad)))
