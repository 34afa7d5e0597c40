/-! THE CLAIM OUT OF ONE WALK OF THE LAW'S BODY. Your part is whole_start (and what it stands on); all else here is the same for every law, but numbers. -/
def R_law : String := "TwoFlagsLaw"
def lw_P (b : Addr) (xs : List Int32) (args : Array Value) (s : State) : Prop := args = #[.ref b] ∧ s.IntsAt b xs ∧ xs.length ≤ 3072 ∧ (Jvm.Cond.and given_1 narrow_1).before args s = true
def lw_Q (_ : Array Value) (s : State) (o : Outcome) (t : State) : Prop := o = .returned (some (.int 1)) ∧ Framed s o t [] 601024 7293034
def lw_Z (below : List Frame) (a : Array Value) (s : State) : State → Prop := fun t => ∃ o, t.status = .running ∧ Ended t below o ∧ lw_Q a s o t
/-- the law's own end, with 1 on the stack, nothing written that was there before, its room as the claim has it -/
theorem lw_ret {p : Program} {l : Launch} {e : Env} {s : State} {m : MethodId} {below : List Frame} {meth : Method} {c : Code} {b : Nat} (hx : p.tables.exec = Jvm.exec) (hb : c.code = code) (hr : meth.sig.returnType = ret) (hlocks : meth.locks = false) {pc : Nat} {H : Heap} {ls : Array Slot} (hdg : decode code pc = .ok (.ireturn, 1)) : W p l e room_1 s m #[Value.ref b] below meth c H [] 601024 7293034 (lw_Z below #[Value.ref b] s) (F0 m pc ls [.int 1]) := by
  intro T hT X
  obtain ⟨fs, hret, hrun, hended, hW, hframe⟩ := X.leave (v := some (.int 1)) (hlocks := hlocks) (fun h => by rw [hr] at h; cases h)
  have hmeth' : T.vm.method? m = some meth := X.method'
  refine ⟨T.setFrames fs, ?_, .returned (some (.int 1)), hrun, hended, rfl, ⟨_, rfl⟩, hW, hframe⟩
  jvm_step X.here [X.here.top, hx, hb, hdg, hmeth', hr, ret, narrow_b1]
  (try refine ⟨rfl, ?_⟩); (try refine ⟨rfl, ?_⟩)
  first | (intro acts; rw [hret _ acts rfl rfl rfl]) | rw [hret _ _ rfl rfl rfl]
  exact Steps.refl _
/-- what holds at the law's entry: the machine, the code, the tables' words (any of lw_tbl by 'hts w (by decide +kernel)'), the script of L ints xs at the cell b, what the Statement gives of the start (any of its parts by flat_of_before) -/
def lw_At (p : Program) (s : State) (m : MethodId) (meth : Method) (c : Code) (b L : Nat) (xs : Nat → Int32) : Prop :=
  p.tables.exec = Jvm.exec ∧ c.code = code ∧ meth.sig.returnType = ret ∧ c.maxLocals = 8 ∧ s.vm.findClass R_law = some m.cls ∧ (∀ w ∈ lw_tbl, w.before #[Value.ref b] s = true) ∧ va_X b L xs s s.heap ∧ b < s.heap.size ∧ meth.locks = false ∧ (Jvm.Cond.and given_1 narrow_1).before #[Value.ref b] s = true
/-! THE START -/
def tmS (i : Nat) : Term := .string (sOwn i) (sIdx i)
def FLc : List Cond := flatC (Jvm.Cond.and given_1 narrow_1)
theorem fl_1 : ∀ i, i < 9 → Cond.exactly (tmS i) "java/lang/String" ∈ FLc := by decide +kernel
theorem fl_2 : ∀ i, i < 6 → Cond.eq (.field (tmS i) "java/lang/String" "coder" "B") (.int 0) ∈ FLc := by decide +kernel
theorem fl_3 : ∀ i, i < 6 → Cond.arrayOf (.field (tmS i) "java/lang/String" "value" "[B") .byte ∈ FLc := by decide +kernel
theorem fl_4 : ∀ i, i < 6 → Cond.eq (.length (.field (tmS i) "java/lang/String" "value" "[B")) (.int (Int32.ofNat (lenS.getD i 0))) ∈ FLc := by decide +kernel
theorem fl_5 : ∀ i, i < 6 → ∀ j, j < lenS.getD i 0 → Cond.eq (.elem (.field (tmS i) "java/lang/String" "value" "[B") (.int (Int32.ofNat j))) (.int ((bytS.getD i []).getD j 0)) ∈ FLc := by decide +kernel
theorem fl_6 : ∀ i, i < 6 → ∀ j, j < 6 → i ≠ j → Cond.not (Cond.eq (tmS i) (tmS j)) ∈ FLc ∨ Cond.not (Cond.eq (tmS j) (tmS i)) ∈ FLc := by decide +kernel
theorem fl_7 : Cond.eq (.static "java/lang/String" "COMPACT_STRINGS" "Z") (.int 1) ∈ FLc := by decide +kernel
theorem fl_8 : Cond.isRef (.static "jdk/internal/util/Preconditions" "SIOOBE_FORMATTER" "Ljava/util/function/BiFunction;") ∈ FLc := by decide +kernel
theorem fl_9 : Cond.isRef (.static Bundle.tN "UNASSIGNED_STACK" Bundle.steD) ∈ FLc := by decide +kernel
theorem fl_10 : Cond.isRef (.static Bundle.tN "SUPPRESSED_SENTINEL" Bundle.listD) ∈ FLc := by decide +kernel
theorem fl_11 : Cond.not (.castable "java/lang/IllegalStateException" "java/lang/IllegalArgumentException") ∈ FLc := by decide +kernel
theorem sr_i : ∀ i, i < 9 → Cond.stringRef (sOwn i) (sIdx i) (sTx i) ∈ lw_tbl := by decide +kernel
theorem ls_1 : Cond.laysStatic "java/lang/String" "COMPACT_STRINGS" "Z" ∈ lw_tbl := (List.mem_of_getElem? (i := 335) (by decide +kernel))
theorem ls_2 : Cond.laysStatic "jdk/internal/util/Preconditions" "SIOOBE_FORMATTER" "Ljava/util/function/BiFunction;" ∈ lw_tbl := (List.mem_of_getElem? (i := 351) (by decide +kernel))
theorem ls_3 : Cond.laysStatic Bundle.tN "UNASSIGNED_STACK" Bundle.steD ∈ lw_tbl := (List.mem_of_getElem? (i := 879) (by decide +kernel))
theorem ls_4 : Cond.laysStatic Bundle.tN "SUPPRESSED_SENTINEL" Bundle.listD ∈ lw_tbl := (List.mem_of_getElem? (i := 881) (by decide +kernel))
theorem ini_1 : Cond.initialized "java/lang/String" ∈ lw_tbl := (List.mem_of_getElem? (i := 44) (by decide +kernel))
theorem ini_2 : Cond.initialized "jdk/internal/util/Preconditions" ∈ lw_tbl := (List.mem_of_getElem? (i := 46) (by decide +kernel))
theorem ini_3 : Cond.initialized Bundle.tN ∈ lw_tbl := (List.mem_of_getElem? (i := 51) (by decide +kernel))
theorem ao_1 : Cond.arrayOver (.object "TwoFlags$Shelf") ∈ lw_tbl := (List.mem_of_getElem? (i := 65) (by decide +kernel))
theorem ao_2 : Cond.arrayOver (.object "TwoFlags$Player") ∈ lw_tbl := (List.mem_of_getElem? (i := 73) (by decide +kernel))
theorem is_X0 : Cond.instantiable RX0 8 ∈ lw_tbl := (List.mem_of_getElem? (i := 74) (by decide +kernel))
theorem is_X1 : Cond.instantiable RX1 3 ∈ lw_tbl := (List.mem_of_getElem? (i := 187) (by decide +kernel))
theorem is_X2 : Cond.instantiable RX2 2 ∈ lw_tbl := (List.mem_of_getElem? (i := 239) (by decide +kernel))
theorem is_X3 : Cond.instantiable RX3 6 ∈ lw_tbl := (List.mem_of_getElem? (i := 193) (by decide +kernel))
theorem is_X4 : Cond.instantiable RX4 14 ∈ lw_tbl := (List.mem_of_getElem? (i := 67) (by decide +kernel))
theorem is_X5 : Cond.instantiable RX5 7 ∈ lw_tbl := (List.mem_of_getElem? (i := 57) (by decide +kernel))
theorem is_X6 : Cond.instantiable RX6 20 ∈ lw_tbl := (List.mem_of_getElem? (i := 951) (by decide +kernel))
theorem arr_T {args : Array Value} {s : State} {ty : FieldType} (h : (Cond.arrayClass ty).before args s = true) : ∃ cA, s.vm.findClass ("[" ++ ty.toString) = some cA ∧ ArrOfT s cA ty := by
  obtain ⟨cA, kA, comp, h1, h2, h3⟩ := Cond.arrayClass_spec (args := args) (first := s) (o := none) (s := s) (idx := []) h
  exact ⟨cA, h1, fun n z => ⟨fun k h => (by cases h), kA, h2, comp, h3⟩⟩
theorem arr_Q {args : Array Value} {s : State} {C : String} (h : (Cond.arrayOver (.object C)).before args s = true) : ∃ cA, va_RA s cA (.object C) ∧ ArrOfT s cA (.object C) := by
  obtain ⟨comp, cA, kA, h1, -, h2, h3, h4⟩ := Cond.arrayOver_spec (args := args) (first := s) (o := none) (s := s) (idx := []) h
  exact ⟨cA, ⟨kA, comp, h2, h3, h1, h4⟩, fun n z => ⟨fun k h => (by cases h), kA, h2, comp, h3⟩⟩
set_option maxRecDepth 20000 in
set_option maxHeartbeats 4000000 in
theorem KC_0 {s : State} {args : Array Value} (hts : ∀ w ∈ lw_tbl, w.before args s = true) : ∃ (D : va_G) (T : Nat → ClassId), KC D T s := by
  obtain ⟨cX0, iX0, kX0⟩ := u_known (C := RX0) (T := TX0) (N := 8) (n := 8) hts (fun w hw => (List.mem_filter.mp (ckX0.1 w hw)).1) (hts _ is_X0)
  obtain ⟨cX1, iX1, kX1⟩ := u_known (C := RX1) (T := TX1) (N := 3) (n := 3) hts (fun w hw => (List.mem_filter.mp (ckX1.1 w hw)).1) (hts _ is_X1)
  obtain ⟨cX2, iX2, kX2⟩ := u_known (C := RX2) (T := TX2) (N := 2) (n := 2) hts (fun w hw => (List.mem_filter.mp (ckX2.1 w hw)).1) (hts _ is_X2)
  obtain ⟨cX3, iX3, kX3⟩ := u_known (C := RX3) (T := TX3) (N := 6) (n := 6) hts (fun w hw => (List.mem_filter.mp (ckX3.1 w hw)).1) (hts _ is_X3)
  obtain ⟨cX4, iX4, kX4⟩ := u_known (C := RX4) (T := TX4) (N := 14) (n := 14) hts (fun w hw => (List.mem_filter.mp (ckX4.1 w hw)).1) (hts _ is_X4)
  obtain ⟨cX5, iX5, kX5⟩ := u_known (C := RX5) (T := TX5) (N := 7) (n := 7) hts (fun w hw => (List.mem_filter.mp (ckX5.1 w hw)).1) (hts _ is_X5)
  obtain ⟨cX6, iX6, kX6⟩ := u_known (C := RX6) (T := TX6) (N := 20) (n := 20) hts (fun w hw => (List.mem_filter.mp (ckX6.1 w hw)).1) (hts _ is_X6)
  obtain ⟨t0, a0, b0⟩ := arr_T (ty := .int) (hts _ (List.mem_filter.mp w_ac_int).1)
  obtain ⟨t1, a1, b1⟩ := arr_T (ty := .boolean) (hts _ (List.mem_filter.mp w_ac_boolean).1)
  obtain ⟨t2, a2, b2⟩ := arr_T (ty := .long) (hts _ (List.mem_filter.mp w_ac_long).1)
  obtain ⟨t3, a3, b3⟩ := arr_Q (C := "TwoFlags$Player") (hts _ ao_2)
  obtain ⟨t4, a4, b4⟩ := arr_Q (C := "TwoFlags$Shelf") (hts _ ao_1)
  refine ⟨(fun k => match k with | 0 => cX0 | 1 => cX1 | 2 => cX2 | 3 => cX3 | 4 => cX4 | 5 => cX5 | _ => cX6, fun k => match k with | 0 => iX0 | 1 => iX1 | 2 => iX2 | 3 => iX3 | 4 => iX4 | 5 => iX5 | _ => iX6), (fun k => match k with | 0 => t0 | 1 => t1 | 2 => t2 | 3 => t3 | _ => t4), ⟨?_, ?_⟩, ?_, va_AO.of (hts _ ao_1), va_AO.of (hts _ ao_2)⟩
  · intro k q hq
    match k, hq with
    | 0, hq => cases hq; exact kX0
    | 1, hq => cases hq; exact kX1
    | 2, hq => cases hq; exact kX2
    | 3, hq => cases hq; exact kX3
    | 4, hq => cases hq; exact kX4
    | 5, hq => cases hq; exact kX5
    | 6, hq => cases hq; exact kX6
    | k + 7, hq => simp [classes] at hq
  · intro k q hq
    match k, hq with
    | 0, hq => cases hq; exact ⟨b0, a0⟩
    | 1, hq => cases hq; exact ⟨b1, a1⟩
    | 2, hq => cases hq; exact ⟨b2, a2⟩
    | 3, hq => cases hq; exact ⟨b3, a3⟩
    | 4, hq => cases hq; exact ⟨b4, a4⟩
    | k + 5, hq => simp [tyl] at hq
  · intro w hw
    exact vx_ot_at (State.WarmedH.refl s) rfl (by unfold vx_ot; rw [nl_on hw]; rfl) (hts _ (List.mem_filter.mp hw).1)
set_option maxRecDepth 20000 in
set_option maxHeartbeats 4000000 in
theorem XF_0 {s : State} {b : Nat} (hts : ∀ w ∈ lw_tbl, w.before #[Value.ref b] s = true) (hgv : (Jvm.Cond.and given_1 narrow_1).before #[Value.ref b] s = true) : ∃ ad adV : Nat → Nat, XF ad adV s.heap.size s s.heap ∧ (∀ k, k < 1000000 → ad k = s.heap.size + k) ∧ ad 4000000 = b := by
  have hs : ∀ w ∈ FLc, w.before #[Value.ref b] s = true := flat_of_before _ hgv
  have hA : ∀ a : Nat, a < s.heap.size → ¬ s.heap.size ≤ a := fun a h1 h2 => by omega
  obtain ⟨adK, adV, hS, hev⟩ := vk_Sof (args := #[Value.ref b]) (s := s) (N := 6) (tm := tmS) (len := lenS) (byt := bytS) (A := fun q => s.heap.size ≤ q) (by decide) (fun i hi => hs _ (fl_1 i (by omega))) (fun i hi => hs _ (fl_2 i hi)) (fun i hi => hs _ (fl_3 i hi)) (fun i hi => hs _ (fl_4 i hi)) (fun i hi j hj => hs _ (fl_5 i hi j hj)) (fun i j hi hj hij => (fl_6 i hi j hj hij).imp (fun q => hs _ q) (fun q => hs _ q)) hA
  have h9 : ∀ i : Nat, ∃ a : Nat, i < 9 → (tmS i).eval #[Value.ref b] s none [] s = some (.ref a) := by
    intro i
    by_cases hi : i < 9
    · obtain ⟨a, -, -, -, q, -⟩ := Cond.exactly_spec (args := #[Value.ref b]) (first := s) (o := none) (s := s) (idx := []) (t := tmS i) (cls := "java/lang/String") (hs _ (fl_1 i hi))
      exact ⟨a, fun _ => q⟩
    · exact ⟨0, fun q => absurd q hi⟩
  obtain ⟨aS, haS⟩ := Classical.axiomOfChoice h9
  have eK : ∀ i, i < 6 → aS i = adK i := fun i hi => by
    have q := (haS i (by omega)).symm.trans (hev i hi)
    exact Value.ref.inj (Option.some.inj q)
  have hF : ∃ t : Nat, va_Z "jdk/internal/util/Preconditions" "SIOOBE_FORMATTER" "Ljava/util/function/BiFunction;" .null (fun q => s.heap.size ≤ q) s s.heap ∨ va_Z "jdk/internal/util/Preconditions" "SIOOBE_FORMATTER" "Ljava/util/function/BiFunction;" (.ref t) (fun q => s.heap.size ≤ q) s s.heap := by
    rcases va_Zqof (args := #[Value.ref b]) (s := s) (A := fun q => s.heap.size ≤ q) (hts _ ls_2) (hts _ ini_2) (hs _ fl_8) hA with q | ⟨t, q⟩
    · exact ⟨0, Or.inl q⟩
    · exact ⟨t, Or.inr q⟩
  obtain ⟨tF, hF⟩ := hF
  refine ⟨fun k => if k < 1000000 then s.heap.size + k else if k < 2000000 then aS (k - 1000000) else if k < 3000000 then adV (k - 2000000) else if k = 3000000 then tF else b, adV, ⟨⟨fun i hi => ?_, fun i j hi hj e => ?_⟩, fun i hi => ?_, va_Zof (hts _ ls_1) (hts _ ini_1) (va_eqt (hs _ fl_7)) hA, ?_, vx_Zqof (hts _ ls_3) (hts _ ini_3) (hs _ fl_9) hA, vx_Zqof (hts _ ls_4) (hts _ ini_3) (hs _ fl_10) hA, va_Nc.of (hs _ fl_11), fun i hi => ?_⟩, fun k hk => if_pos hk, ?_⟩
  · have e : (if 1000000 + i < 1000000 then s.heap.size + (1000000 + i) else if 1000000 + i < 2000000 then aS (1000000 + i - 1000000) else if 1000000 + i < 3000000 then adV (1000000 + i - 2000000) else if 1000000 + i = 3000000 then tF else b) = adK i := by
      rw [if_neg (by omega), if_pos (by omega), Nat.add_sub_cancel_left]
      exact eK i hi
    simp only [e]
    exact hS.1 i hi
  · simp only [] at e
    rw [if_neg (by omega), if_pos (by omega), Nat.add_sub_cancel_left, if_neg (by omega), if_pos (by omega), Nat.add_sub_cancel_left, eK i hi, eK j hj] at e
    exact hS.2 i j hi hj e
  · show vk_R _ _ _ (if 1000000 + i < 1000000 then _ else _) _
    rw [if_neg (by omega), if_pos (by omega), Nat.add_sub_cancel_left]
    exact vk_R.of (hts _ (sr_i i hi)) (haS i hi)
  · show _ ∨ va_Z _ _ _ (.ref (if (3000000 : Nat) < 1000000 then _ else _)) _ _ _
    rw [if_neg (by omega), if_neg (by omega), if_neg (by omega), if_pos rfl]
    exact hF
  · show adV i = (if 2000000 + i < 1000000 then _ else _)
    rw [if_neg (by omega), if_neg (by omega), if_pos (by omega), Nat.add_sub_cancel_left]
  · show (if (4000000 : Nat) < 1000000 then _ else _) = b
    rw [if_neg (by omega), if_neg (by omega), if_neg (by omega), if_neg (by omega)]
set_option maxRecDepth 20000 in
set_option maxHeartbeats 4000000 in
theorem whole_start {p : Program} {e : Env} {s : State} {m : MethodId} {below : List Frame} {meth : Method} {c : Code} (l : Launch) (hflags : l.flags = flags0) {b L : Nat} {xs : Nat → Int32} (hL : L ≤ 3072) (C0 : lw_At p s m meth c b L xs) : W p l e room_1 s m #[Value.ref b] below meth c s.heap [] 0 0 (lw_Z below #[Value.ref b] s) (entryFrame m ([Value.ref b] : List Value).toArray 8) := by
  obtain ⟨hx, hb, hr, hml, hown, hts, hX, hbl, hlocks, hgv⟩ := id C0
  obtain ⟨D, T, hK⟩ := KC_0 hts
  obtain ⟨ad, adV, hXF, had, h4⟩ := XF_0 hts hgv
  have hlt : l.stackTraces = false := by
    rw [Launch.stackTraces, hflags]
    decide
  have hC : Cx l mL_law 14 p room_1 s m #[Value.ref b] meth c D T ad adV s.heap.size := ⟨hx, hb, hml, hown, fun w hw => hts w (List.mem_filter.mp hw).1, hK, hXF, had, Nat.le_refl _, Nat.le_of_ble_eq_true rfl, Nat.le_of_ble_eq_true rfl, fun q => absurd q (by decide +kernel), hlt⟩
  have hE : En l mL_law QL p e room_1 s m #[Value.ref b] below meth c D T ad s.heap.size 601024 7293034 (lw_Z below #[Value.ref b] s) := by
    intro pc lsA r h1 n1 H locs cells slots hR hQ hW1 hS1 hc hz
    cases hQ
    refine va_forget hS1.2.2 (W.widen (k := 601024) (n := 7293034) hc hz ?_)
    exact lw_ret hx hb hr hlocks hR.1
  have hl := lv_entry ([.ref b]) (n := 8) (Nat.le_of_ble_eq_true rfl)
  rw [lg_entry_eq]
  have X0 : ∃ X : PX l mL_law 14 QL, X = ⟨⟨p, e, room_1, s, m, #[Value.ref b], below, meth, c, D, T, ad, adV, s.heap.size, 601024, 7293034, lw_Z below #[Value.ref b] s⟩, hC, Nat.le_refl _, Nat.le_refl _, hE⟩ := ⟨_, rfl⟩
  obtain ⟨X, eX⟩ := X0
  have sc : Sct X L xs := by
    subst eX
    show va_X (ad 4000000) L xs s s.heap ∧ ad 4000000 < s.heap.size ∧ ¬ s.heap.size ≤ ad 4000000
    rw [h4]
    exact ⟨hX, hbl, by omega⟩
  have hV := law_all X sc hL
  subst eX
  refine hV _ s.heap [] 0 0 ⟨by show s.heap.size = s.heap.size + 0; omega, by omega, fun k x q => by cases q⟩ va_S.rf (Nat.le_of_ble_eq_true rfl) (Nat.le_of_ble_eq_true rfl) ?_
  show lv_has _ 8 (lvl ad 0 (lsE 8 [.ref 4000000]))
  rw [lsE, lvl_entry]
  show lv_has _ 8 (lv_args 0 [.ref (ad 4000000)])
  rw [h4]
  exact hl
