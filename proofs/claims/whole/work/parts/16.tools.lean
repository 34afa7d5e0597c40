/-- a method's contract: called with As over the picture h of n places -/
def Sp (l : Launch) (N : MT) (d : Nat) (As : List Value) (h : MH) (n c z : Nat) (Q : Option Value → MH → Nat → Prop) : Prop := V l N d 0 (lsE N.2.2.1 As) [] h n c z Q
/-- it answers v, the picture is h -/
def Pv (v : Int32) (h : MH) (n : Nat) : Option Value → MH → Nat → Prop := fun r h1 n1 => r = some (.int v) ∧ h1 = h ∧ n1 = n
def Pu (h : MH) (n : Nat) : Option Value → MH → Nat → Prop := fun r h1 n1 => r = none ∧ h1 = h ∧ n1 = n
def bI (b : Bool) : Int32 := if b then 1 else 0
theorem bI_narrow (b : Bool) : narrow .boolean (.int (bI b)) = .int (bI b) := by cases b <;> decide
theorem bI_fits (b : Bool) : fits .boolean (.int (bI b)) = true := by cases b <;> decide
theorem nI_lit (n : Nat) : Int32.ofInt (n : Int) = nI n := by
  rw [nI, Int32.ofInt_eq_ofNat]
section VT
variable {l : Launch} {M : MT} {d pc : Nat} {ls : List (Option Value)} {st : List Value} {h : MH} {n c z : Nat} {Q : Option Value → MH → Nat → Prop}
theorem V.callSv {N : MT} {idx k : Nat} {v : Int32} {h2 : MH} (As : List Value) (hd : decode M.2.1 pc = .ok (.invokestatic idx, 3)) (hk : LkS M.1.cls idx N k) (hA : As.length = k) (hlen : (ls0 As).length ≤ N.2.2.1) (hst : (st.map fun v => v.category).sum ≤ 8)
    (hN : Sp l N d As h n 0 0 (Pv v h2 n)) (kk : V l M (d + 1) (pc + 3) ls (.int v :: st) h2 n c z Q) : V l M (d + 1) pc ls (As.reverse ++ st) h n c z Q :=
  V.callS (c := c) (z := z) As hd hk hA hlen hst hN (fun r h1 n1 q => by obtain ⟨rfl, rfl, rfl⟩ := q; exact kk)
theorem V.callSu {N : MT} {idx k : Nat} {h2 : MH} (As : List Value) (hd : decode M.2.1 pc = .ok (.invokestatic idx, 3)) (hk : LkS M.1.cls idx N k) (hA : As.length = k) (hlen : (ls0 As).length ≤ N.2.2.1) (hst : (st.map fun v => v.category).sum ≤ 8)
    (hN : Sp l N d As h n 0 0 (Pu h2 n)) (kk : V l M (d + 1) (pc + 3) ls st h2 n c z Q) : V l M (d + 1) pc ls (As.reverse ++ st) h n c z Q :=
  V.callS (c := c) (z := z) As hd hk hA hlen hst hN (fun r h1 n1 q => by obtain ⟨rfl, rfl, rfl⟩ := q; exact kk)
theorem V.callVv {N : MT} {idx k b ci : Nat} {fs : List Value} {v : Int32} {h2 : MH} (As : List Value) (hd : decode M.2.1 pc = .ok (.invokevirtual idx, 3)) (hk : LkV M.1.cls idx N k) (hA : As.length = k) (hlen : (ls0 (.ref b :: As)).length ≤ N.2.2.1) (hst : (st.map fun v => v.category).sum ≤ 8)
    (hb0 : h b = some (.inr (ci, fs))) (hci : (classes[ci]?).map (fun q => q.1) = some N.1.cls) (hN : Sp l N d (.ref b :: As) h n 0 0 (Pv v h2 n)) (kk : V l M (d + 1) (pc + 3) ls (.int v :: st) h2 n c z Q) : V l M (d + 1) pc ls (As.reverse ++ .ref b :: st) h n c z Q :=
  V.callV (c := c) (z := z) As hd hk hA hlen hst hb0 hci hN (fun r h1 n1 q => by obtain ⟨rfl, rfl, rfl⟩ := q; exact kk)
theorem V.callVu {N : MT} {idx k b ci : Nat} {fs : List Value} {h2 : MH} (As : List Value) (hd : decode M.2.1 pc = .ok (.invokevirtual idx, 3)) (hk : LkV M.1.cls idx N k) (hA : As.length = k) (hlen : (ls0 (.ref b :: As)).length ≤ N.2.2.1) (hst : (st.map fun v => v.category).sum ≤ 8)
    (hb0 : h b = some (.inr (ci, fs))) (hci : (classes[ci]?).map (fun q => q.1) = some N.1.cls) (hN : Sp l N d (.ref b :: As) h n 0 0 (Pu h2 n)) (kk : V l M (d + 1) (pc + 3) ls st h2 n c z Q) : V l M (d + 1) pc ls (As.reverse ++ .ref b :: st) h n c z Q :=
  V.callV (c := c) (z := z) As hd hk hA hlen hst hb0 hci hN (fun r h1 n1 q => by obtain ⟨rfl, rfl, rfl⟩ := q; exact kk)
/-- numbers that are counts -/
theorem V.iaddN {x y : Nat} (hd : decode M.2.1 pc = .ok (.iadd, 1)) (k : V l M d (pc + 1) ls (.int (nI (x + y)) :: st) h n c z Q) : V l M d pc ls (.int (nI y) :: .int (nI x) :: st) h n c z Q := V.iadd hd (by rw [nI_add]; exact k)
theorem V.imulN {x y : Nat} (hd : decode M.2.1 pc = .ok (.imul, 1)) (k : V l M d (pc + 1) ls (.int (nI (x * y)) :: st) h n c z Q) : V l M d pc ls (.int (nI y) :: .int (nI x) :: st) h n c z Q := V.imul hd (by rw [pk_mul]; exact k)
theorem V.isubN {x y : Nat} (hd : decode M.2.1 pc = .ok (.isub, 1)) (hxy : y ≤ x) (k : V l M d (pc + 1) ls (.int (nI (x - y)) :: st) h n c z Q) : V l M d pc ls (.int (nI y) :: .int (nI x) :: st) h n c z Q := V.isub hd (by rw [pk_sub hxy]; exact k)
theorem V.idivN {x y : Nat} (hd : decode M.2.1 pc = .ok (.idiv, 1)) (hx : x < 2 ^ 31) (hy : 0 < y) (hy2 : y < 2 ^ 31) (k : V l M d (pc + 1) ls (.int (nI (x / y)) :: st) h n c z Q) : V l M d pc ls (.int (nI y) :: .int (nI x) :: st) h n c z Q := V.idiv hd (nI_ne0 hy hy2) (by rw [pk_div hx hy hy2]; exact k)
theorem V.iremN {x y : Nat} (hd : decode M.2.1 pc = .ok (.irem, 1)) (hx : x < 2 ^ 31) (hy : 0 < y) (hy2 : y < 2 ^ 31) (k : V l M d (pc + 1) ls (.int (nI (x % y)) :: st) h n c z Q) : V l M d pc ls (.int (nI y) :: .int (nI x) :: st) h n c z Q := V.irem hd (nI_ne0 hy hy2) (by rw [pk_rem hx hy hy2]; exact k)
theorem V.iincN {i x : Nat} (hd : decode M.2.1 pc = .ok (.iinc i 1, 3)) (hx : ls[i]? = some (some (.int (nI x)))) (hi : i < M.2.2.1) (hn : nolong ls = true) (k : V l M d (pc + 3) (ls.set i (some (.int (nI (x + 1))))) st h n c z Q) : V l M d pc ls st h n c z Q := V.iinc hd hx (nI_1 x) hi hn k
theorem V.icN {i : Nat} (hd : decode M.2.1 pc = .ok (.iconst (i : Int), 1)) (k : V l M d (pc + 1) ls (.int (nI i) :: st) h n c z Q) : V l M d pc ls st h n c z Q := V.iconst hd (nI_lit i) k
theorem V.icmp_ltN {x y tgt : Nat} {off : Int} (hd : decode M.2.1 pc = .ok (.if_icmp .lt off, 3)) (ht : (pc : Int) + off = (tgt : Int)) (hx : x < 2 ^ 31) (hy : y < 2 ^ 31) (kt : x < y → V l M d tgt ls st h n c z Q) (kf : y ≤ x → V l M d (pc + 3) ls st h n c z Q) : V l M d pc ls (.int (nI y) :: .int (nI x) :: st) h n c z Q :=
  V.icmp_lt hd ht (fun q => kt ((nI_ltI hx hy).mp q)) (fun q => kf (Nat.le_of_not_lt (fun r => q ((nI_ltI hx hy).mpr r))))
theorem V.icmp_geN {x y tgt : Nat} {off : Int} (hd : decode M.2.1 pc = .ok (.if_icmp .ge off, 3)) (ht : (pc : Int) + off = (tgt : Int)) (hx : x < 2 ^ 31) (hy : y < 2 ^ 31) (kt : y ≤ x → V l M d tgt ls st h n c z Q) (kf : x < y → V l M d (pc + 3) ls st h n c z Q) : V l M d pc ls (.int (nI y) :: .int (nI x) :: st) h n c z Q :=
  V.icmp_ge hd ht (fun q => kt ((nI_leI hy hx).mp q)) (fun q => kf (Nat.lt_of_not_le (fun r => q ((nI_leI hy hx).mpr r))))
theorem V.icmp_gtN {x y tgt : Nat} {off : Int} (hd : decode M.2.1 pc = .ok (.if_icmp .gt off, 3)) (ht : (pc : Int) + off = (tgt : Int)) (hx : x < 2 ^ 31) (hy : y < 2 ^ 31) (kt : y < x → V l M d tgt ls st h n c z Q) (kf : x ≤ y → V l M d (pc + 3) ls st h n c z Q) : V l M d pc ls (.int (nI y) :: .int (nI x) :: st) h n c z Q :=
  V.icmp_gt hd ht (fun q => kt ((nI_ltI hy hx).mp q)) (fun q => kf (Nat.le_of_not_lt (fun r => q ((nI_ltI hy hx).mpr r))))
theorem V.icmp_leN {x y tgt : Nat} {off : Int} (hd : decode M.2.1 pc = .ok (.if_icmp .le off, 3)) (ht : (pc : Int) + off = (tgt : Int)) (hx : x < 2 ^ 31) (hy : y < 2 ^ 31) (kt : x ≤ y → V l M d tgt ls st h n c z Q) (kf : y < x → V l M d (pc + 3) ls st h n c z Q) : V l M d pc ls (.int (nI y) :: .int (nI x) :: st) h n c z Q :=
  V.icmp_le hd ht (fun q => kt ((nI_leI hx hy).mp q)) (fun q => kf (Nat.lt_of_not_le (fun r => q ((nI_leI hx hy).mpr r))))
theorem V.icmp_eqN {x y tgt : Nat} {off : Int} (hd : decode M.2.1 pc = .ok (.if_icmp .eq off, 3)) (ht : (pc : Int) + off = (tgt : Int)) (hx : x < 2 ^ 31) (hy : y < 2 ^ 31) (kt : x = y → V l M d tgt ls st h n c z Q) (kf : x ≠ y → V l M d (pc + 3) ls st h n c z Q) : V l M d pc ls (.int (nI y) :: .int (nI x) :: st) h n c z Q :=
  V.icmp_eq hd ht (fun q => kt ((nI_eq hx hy).mp q)) (fun q => kf (fun r => q ((nI_eq hx hy).mpr r)))
theorem V.icmp_neN {x y tgt : Nat} {off : Int} (hd : decode M.2.1 pc = .ok (.if_icmp .ne off, 3)) (ht : (pc : Int) + off = (tgt : Int)) (hx : x < 2 ^ 31) (hy : y < 2 ^ 31) (kt : x ≠ y → V l M d tgt ls st h n c z Q) (kf : x = y → V l M d (pc + 3) ls st h n c z Q) : V l M d pc ls (.int (nI y) :: .int (nI x) :: st) h n c z Q :=
  V.icmp_ne hd ht (fun q => kt (fun r => q ((nI_eq hx hy).mpr r))) (fun q => kf ((nI_eq hx hy).mp q))
/-- on a truth value -/
theorem V.if_eqB {b : Bool} {tgt : Nat} {off : Int} (hd : decode M.2.1 pc = .ok (.ifCond .eq off, 3)) (ht : (pc : Int) + off = (tgt : Int)) (kt : b = false → V l M d tgt ls st h n c z Q) (kf : b = true → V l M d (pc + 3) ls st h n c z Q) : V l M d pc ls (.int (bI b) :: st) h n c z Q :=
  V.if_eq hd ht (fun q => kt (by cases b; rfl; exact absurd q (by decide))) (fun q => kf (by cases b; exact absurd rfl q; rfl))
theorem V.if_neB {b : Bool} {tgt : Nat} {off : Int} (hd : decode M.2.1 pc = .ok (.ifCond .ne off, 3)) (ht : (pc : Int) + off = (tgt : Int)) (kt : b = true → V l M d tgt ls st h n c z Q) (kf : b = false → V l M d (pc + 3) ls st h n c z Q) : V l M d pc ls (.int (bI b) :: st) h n c z Q :=
  V.if_ne hd ht (fun q => kt (by cases b; exact absurd rfl q; rfl)) (fun q => kf (by cases b; rfl; exact absurd q (by decide)))
/-- rows at a count -/
theorem V.ialdN {a N m : Nat} {f : Nat → Int32} (hd : decode M.2.1 pc = .ok (.iaload, 1)) (ha : h a = some (.inl (0, N, .inl f))) (hm : m < N) (hN : N < 2 ^ 31) (kk : V l M d (pc + 1) ls (.int (f m) :: st) h n c z Q) : V l M d pc ls (.int (nI m) :: .ref a :: st) h n c z Q :=
  V.iald hd ha (vp_in_nI hm hN) (by rw [nI_clamp (by omega)]; exact kk)
theorem V.zaldN {a N m : Nat} {f : Nat → Int32} (hd : decode M.2.1 pc = .ok (.baload, 1)) (ha : h a = some (.inl (1, N, .inl f))) (hm : m < N) (hN : N < 2 ^ 31) (kk : V l M d (pc + 1) ls (.int (f m) :: st) h n c z Q) : V l M d pc ls (.int (nI m) :: .ref a :: st) h n c z Q :=
  V.zald hd ha (vp_in_nI hm hN) (by rw [nI_clamp (by omega)]; exact kk)
theorem V.aaldN {a N t m q : Nat} {f : Nat → Option Nat} (hd : decode M.2.1 pc = .ok (.aaload, 1)) (ht : t = 3 ∨ t = 4) (ha : h a = some (.inl (t, N, .inr (.inr (.inr (.inr f)))))) (hm : m < N) (hN : N < 2 ^ 31) (hq : f m = some q) (kk : V l M d (pc + 1) ls (.ref q :: st) h n c z Q) : V l M d pc ls (.int (nI m) :: .ref a :: st) h n c z Q :=
  V.aald hd ht ha (vp_in_nI hm hN) (by rw [nI_clamp (by omega)]; exact hq) kk
theorem V.iastN {a N m : Nat} {f : Nat → Int32} {x : Int32} (hd : decode M.2.1 pc = .ok (.iastore, 1)) (ha : h a = some (.inl (0, N, .inl f))) (hm : m < N) (hN : N < 2 ^ 31) (kk : V l M d (pc + 1) ls st (hset h a (.inl (0, N, .inl (upd f m x)))) n c z Q) : V l M d pc ls (.int x :: .int (nI m) :: .ref a :: st) h n c z Q :=
  V.iast hd ha (vp_in_nI hm hN) (by rw [nI_clamp (by omega)]; exact kk)
theorem V.zastN {a N m : Nat} {f : Nat → Int32} {x : Int32} (hd : decode M.2.1 pc = .ok (.bastore, 1)) (ha : h a = some (.inl (1, N, .inl f))) (hm : m < N) (hN : N < 2 ^ 31) (hx : narrow .boolean (.int x) = .int x) (kk : V l M d (pc + 1) ls st (hset h a (.inl (1, N, .inl (upd f m x)))) n c z Q) : V l M d pc ls (.int x :: .int (nI m) :: .ref a :: st) h n c z Q :=
  V.zast hd ha (vp_in_nI hm hN) hx (by rw [nI_clamp (by omega)]; exact kk)
theorem V.iretP {v : Int32} (hd : decode M.2.1 pc = .ok (.ireturn, 1)) (hr : M.2.2.2 = some .int) {w : Int32} {h2 : MH} (e : v = w) (e2 : h = h2) : V l M d pc ls [.int v] h n c z (Pv w h2 n) := V.iret hd hr rfl ⟨by rw [e], e2, rfl⟩
theorem V.iretB {b : Bool} (hd : decode M.2.1 pc = .ok (.ireturn, 1)) (hr : M.2.2.2 = some .boolean) {w : Bool} {h2 : MH} (e : b = w) (e2 : h = h2) : V l M d pc ls [.int (bI b)] h n c z (Pv (bI w) h2 n) := V.iret hd hr (bI_narrow b) ⟨by rw [e], e2, rfl⟩
theorem V.iretZ {v : Int32} (hd : decode M.2.1 pc = .ok (.ireturn, 1)) (hr : M.2.2.2 = some .boolean) {w : Bool} {h2 : MH} (e : v = bI w) (e2 : h = h2) : V l M d pc ls [.int v] h n c z (Pv (bI w) h2 n) := by
  subst e
  exact V.iret hd hr (bI_narrow w) ⟨rfl, e2, rfl⟩
theorem V.vretP (hd : decode M.2.1 pc = .ok (.return_, 1)) (hr : M.2.2.2 = none) {h2 : MH} (e2 : h = h2) : V l M d pc ls [] h n c z (Pu h2 n) := V.vret hd hr ⟨rfl, e2, rfl⟩
end VT
