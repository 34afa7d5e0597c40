theorem at0_fail : ∀ w ∈ vx_atS RX3 42 "java/lang/IllegalStateException" ["java/lang/RuntimeException", "java/lang/Exception"], w ∈ lw_tbl ∧ (goodWord w = true ∨ isNL w = true) := by decide +kernel
theorem at_fail : ∀ w ∈ vx_atS RX3 42 "java/lang/IllegalStateException" ["java/lang/RuntimeException", "java/lang/Exception"], w ∈ WG ∨ w ∈ NL := fun w hw => (at0_fail w hw).2.imp (fun q => List.mem_filter.mpr ⟨(at0_fail w hw).1, q⟩) (fun q => List.mem_filter.mpr ⟨(at0_fail w hw).1, q⟩)
theorem go_fail : ∀ w ∈ Cond.classLink RX3 38 "java/lang/IllegalStateException" :: Cond.initialized "java/lang/IllegalStateException" :: vx_atS RX3 42 "java/lang/IllegalStateException" ["java/lang/RuntimeException", "java/lang/Exception"], vx_ot w = true := by decide +kernel
theorem at0_el1 : ∀ w ∈ vx_atS RX5 282 "java/lang/IllegalArgumentException" ["java/lang/RuntimeException", "java/lang/Exception"], w ∈ lw_tbl ∧ (goodWord w = true ∨ isNL w = true) := by decide +kernel
theorem at_el1 : ∀ w ∈ vx_atS RX5 282 "java/lang/IllegalArgumentException" ["java/lang/RuntimeException", "java/lang/Exception"], w ∈ WG ∨ w ∈ NL := fun w hw => (at0_el1 w hw).2.imp (fun q => List.mem_filter.mpr ⟨(at0_el1 w hw).1, q⟩) (fun q => List.mem_filter.mpr ⟨(at0_el1 w hw).1, q⟩)
theorem go_el1 : ∀ w ∈ Cond.classLink RX5 278 "java/lang/IllegalArgumentException" :: Cond.initialized "java/lang/IllegalArgumentException" :: vx_atS RX5 282 "java/lang/IllegalArgumentException" ["java/lang/RuntimeException", "java/lang/Exception"], vx_ot w = true := by decide +kernel
theorem at0_el2 : ∀ w ∈ vx_atS RX5 289 "java/lang/IllegalStateException" ["java/lang/RuntimeException", "java/lang/Exception"], w ∈ lw_tbl ∧ (goodWord w = true ∨ isNL w = true) := by decide +kernel
theorem at_el2 : ∀ w ∈ vx_atS RX5 289 "java/lang/IllegalStateException" ["java/lang/RuntimeException", "java/lang/Exception"], w ∈ WG ∨ w ∈ NL := fun w hw => (at0_el2 w hw).2.imp (fun q => List.mem_filter.mpr ⟨(at0_el2 w hw).1, q⟩) (fun q => List.mem_filter.mpr ⟨(at0_el2 w hw).1, q⟩)
theorem go_el2 : ∀ w ∈ Cond.classLink RX5 285 "java/lang/IllegalStateException" :: Cond.initialized "java/lang/IllegalStateException" :: vx_atS RX5 289 "java/lang/IllegalStateException" ["java/lang/RuntimeException", "java/lang/Exception"], vx_ot w = true := by decide +kernel
theorem cl_X3_38 : Cond.classLink RX3 38 "java/lang/IllegalStateException" ∈ WG := inW 852 (by decide +kernel) rfl
theorem cl_X5_285 : Cond.classLink RX5 285 "java/lang/IllegalStateException" ∈ WG := inW 847 (by decide +kernel) rfl
theorem cl_X5_278 : Cond.classLink RX5 278 "java/lang/IllegalArgumentException" ∈ WG := inW 932 (by decide +kernel) rfl
theorem cl_L_13 : Cond.classLink RL 13 "java/lang/IllegalArgumentException" ∈ WG := inW 926 (by decide +kernel) rfl
theorem cl_L_15 : Cond.classLink RL 15 "java/lang/IllegalStateException" ∈ WG := inW 927 (by decide +kernel) rfl
theorem in_ISE : Cond.initialized "java/lang/IllegalStateException" ∈ WG := inW 55 (by decide +kernel) rfl
theorem in_IAE : Cond.initialized "java/lang/IllegalArgumentException" ∈ WG := inW 54 (by decide +kernel) rfl
theorem ca_ISE : Cond.castable "java/lang/IllegalStateException" "java/lang/IllegalStateException" ∈ NL := inNL 854 (by decide +kernel) rfl
theorem ca_IAE : Cond.castable "java/lang/IllegalArgumentException" "java/lang/IllegalArgumentException" ∈ NL := inNL 934 (by decide +kernel) rfl
theorem ml_302 : Cond.methodLink RX5 302 mX3_fail.1 ∈ WG := inW 848 (by decide +kernel) rfl
theorem ml_7 : Cond.methodLink RL 7 mX5_element.1 ∈ WG := inW 928 (by decide +kernel) rfl
set_option maxRecDepth 20000 in
set_option maxHeartbeats 4000000 in
theorem s3_fail (l : Launch) (d : Nat) {D : va_G} {T : Nat → ClassId} {ad adV : Nat → Nat} {B : Nat} (hlt : l.stackTraces = false) (had : ∀ k, k < 1000000 → ad k = B + k) (h : MH) (n q a : Nat) (ho kd fg so sz : Int32) (hS : h q = some (.inr (3, shF ho kd fg so sz a))) :
    vx_Met l mX3_fail.1 (WS mX3_fail) (rmv (d + 6) 1 6) (PcV D T ad adV B [.ref q] h n) (QcV D T ad B (fun r h1 n1 => r = none ∧ h1 = h ∧ n1 = n ∧ (fg = 0 ∨ kd = nI 3))) (XCd D T ad B h (fun E => E = "java/lang/IllegalStateException" ∧ ¬ fg = 0 ∧ ¬ kd = nI 3)) 1 6 (fun q => B ≤ q) := by
  refine Met.ofPX hlt had (by decide +kernel) (Nat.le_of_ble_eq_true rfl) (fun X hQ htb hlk => ?_)
  show VP X 0 [some (.ref q)] [] h n 1 6
  refine VP.aload_n dX3_fail_0 rfl ?_
  refine VP.getf dX3_fail_1 fl_X3_22 hS rfl ?_
  refine VP.if_eq (tgt := 25) dX3_fail_4 (by decide) (fun c => ?_) (fun c => ?_)
  · exact VP.vret (by exact dX3_fail_25) rfl ⟨rfl, rfl, rfl, Or.inl c⟩
  · refine VP.aload_n dX3_fail_7 rfl ?_
    refine VP.getf dX3_fail_8 fl_X3_19 hS rfl ?_
    refine VP.iconst (v := nI 3) dX3_fail_11 (by decide) ?_
    refine VP.icmp_eq (tgt := 25) dX3_fail_12 (by decide) (fun c2 => ?_) (fun c2 => ?_)
    · exact VP.vret (by exact dX3_fail_25) rfl ⟨rfl, rfl, rfl, Or.inr c2⟩
    · exact VP.throwS (c := 0) (z := 0) (j := 6) (names := ["java/lang/RuntimeException", "java/lang/Exception"]) hQ htb hlk (by omega) rfl (by decide +kernel) (by decide +kernel) cl_X3_38 in_ISE (by decide) rfl rfl at_fail go_fail dX3_fail_15 dX3_fail_18 dX3_fail_19 dX3_fail_21 dX3_fail_24 ⟨rfl, c, c2⟩
def faV (kd fg : Int32) : Int32 := if kd = nI 5 then nI 100 + fg else if kd = nI 6 then nI 200 + woR kd fg else fg
def tosR (kd fg : Int32) : Int32 := if kd = nI 3 then -15 else if fg = 0 then -15 else faV kd fg
def tossV (S : SS) (x : Int32) : Int32 := if wnV S x (nI 1) = 0 then tosR (S 4 x.toNatClampNeg) (S 5 x.toNatClampNeg) else wnV S x (nI 1)
set_option maxRecDepth 20000 in
set_option maxHeartbeats 4000000 in
theorem s3_failure (l : Launch) (d : Nat) (h : MH) (n q a : Nat) (ho kd fg so sz : Int32) (hS : h q = some (.inr (3, shF ho kd fg so sz a))) : Sp l mX3_failure (d + 1) [.ref q] h n 0 0 (Pv (faV kd fg) h n) := by
  show V _ _ _ _ [some (.ref q)] _ _ _ _ _ _
  refine V.aload_n dX3_failure_0 rfl ?_
  refine V.getf dX3_failure_1 fl_X3_19 hS rfl ?_
  refine V.bipush (v := nI 6) dX3_failure_4 (by decide) ?_
  refine V.icmp_ne (tgt := 18) dX3_failure_6 (by decide) (fun c => ?_) (fun c => ?_)
  · refine V.aload_n dX3_failure_18 rfl ?_
    refine V.getf dX3_failure_19 fl_X3_19 hS rfl ?_
    refine V.iconst (v := nI 5) dX3_failure_22 (by decide) ?_
    refine V.icmp_ne (tgt := 36) dX3_failure_23 (by decide) (fun c2 => ?_) (fun c2 => ?_)
    · refine V.aload_n dX3_failure_36 rfl ?_
      refine V.getf dX3_failure_37 fl_X3_22 hS rfl ?_
      exact V.iretP (by exact dX3_failure_40) rfl (by rw [faV, if_neg c2, if_neg c]) rfl
    · refine V.bipush (v := nI 100) dX3_failure_26 (by decide) ?_
      refine V.aload_n dX3_failure_28 rfl ?_
      refine V.getf dX3_failure_29 fl_X3_22 hS rfl ?_
      refine V.iadd dX3_failure_32 ?_
      refine V.goto (tgt := 40) dX3_failure_33 (by decide) ?_
      exact V.iretP (by exact dX3_failure_40) rfl (by rw [faV, if_pos c2]) rfl
  · refine V.sipush (v := nI 200) dX3_failure_9 (by decide) ?_
    refine V.aload_n dX3_failure_12 rfl ?_
    refine V.callVv [] dX3_failure_13 lk_X3_45 rfl (Nat.le_of_ble_eq_true rfl) (Nat.le_of_ble_eq_true rfl) hS rfl (s3_worthOfRole _ _ _ _ _ _ _ _ _ _ _ hS) ?_
    refine V.iadd dX3_failure_16 ?_
    exact V.iretP (by exact dX3_failure_17) rfl (by rw [faV, if_neg (by rw [c]; decide), if_pos c]) rfl
abbrev mX5_toss : MT := (yX5_toss, cX5_toss, 4, (some .int))
def hhT : List (Nat × Nat × Nat × Nat) := [(13, 22, 25, 285)]
set_option maxRecDepth 20000 in
set_option maxHeartbeats 4000000 in
theorem x_toss (l : Launch) (d : Nat) {D : va_G} {T : Nat → ClassId} {ad adV : Nat → Nat} {B : Nat} (hlt : l.stackTraces = false) (had : ∀ k, k < 1000000 → ad k = B + k) (h : MH) (n : Nat) (K : KK) (b : Bool) (KI : KK) (S : SS) (m : Nat) (hc : ClsAt h K b KI S) (hT : TI K m) (hn : n + 1 < 1000000) (x : Int32) :
    Met l mX5_toss.1 (WSH mX5_toss hhT) (rmv (d + 7) 1 6) (PcV D T ad adV B [.ref 0, .int x] h n) (QcV D T ad B (fun r h1 n1 => r = some (.int (tossV S x)) ∧ h1 = h ∧ n ≤ n1 ∧ n1 ≤ n + 1)) 1 6 (fun q => B ≤ q) := by
  obtain ⟨ht0, ⟨sq, hsq, esq⟩, -, -, -, -, -, -, -, hsh⟩ := id hc
  refine Met.ofPH hlt had (by decide +kernel) (Nat.le_of_ble_eq_true rfl) (fun X htb hsz => ?_)
  show VP X 0 [some (.ref 0), some (.int x), none, none] [] h n 1 6
  refine VP.aload_n dX5_toss_0 rfl ?_
  refine VP.iload_n dX5_toss_1 rfl ?_
  refine VP.iconst (v := nI 1) dX5_toss_2 (by decide) ?_
  refine VP.callVv [_, _] dX5_toss_3 lk_X5_116 rfl (Nat.le_of_ble_eq_true rfl) (Nat.le_of_ble_eq_true rfl) ht0 rfl (x_want _ _ _ _ _ _ _ _ _ hc hT _ _) ?_
  refine VP.ist2 dX5_toss_6 (by decide) rfl ?_
  refine VP.iload_n dX5_toss_7 rfl ?_
  refine VP.if_eq (tgt := 13) dX5_toss_8 (by decide) (fun c8 => ?_) (fun c8 => ?_)
  · obtain ⟨i, hi, rfl, hk, hwi⟩ := wn_0 c8 (by decide)
    obtain ⟨kd, fg, so, sz, el, hS, hE, hR, hW⟩ := hsh i (by omega)
    have hv : tossV S (nI i) = tosR kd fg := by rw [tossV, if_pos c8, clampI (show i < 2147483648 by omega), (hR hk).1, (hR hk).2]
    refine VP.aload_n dX5_toss_13 rfl ?_
    refine VP.getf dX5_toss_14 fl_X5_11 ht0 rfl ?_
    refine VP.iload_n dX5_toss_17 rfl ?_
    refine VP.aaldN dX5_toss_18 (Or.inr rfl) hsq (by omega) (by decide) (esq i (by omega)) ?_
    refine VP.callX (c := 0) (z := 0) (c1 := 1) (z1 := 6) [] dX5_toss_19 lk_X5_302 ml_302 rfl (Nat.le_of_ble_eq_true rfl) hS rfl (by omega) (s3_fail l d hlt X.2.1.2.2.2.2.2.2.2.1 h n _ _ _ _ _ _ _ hS) (fun r h1 n1 q => ?_) (fun E ce q9 n1 lsA H locs cells slots hex hcell hcv hcl hn1 hn2 hW1 hS1 hc1 hz1 hl1 => ?_)
    · obtain ⟨rfl, rfl, e9, hq⟩ := q
      rw [e9]
      refine VP.goto (tgt := 36) dX5_toss_22 (by decide) ?_
      refine VP.bipush (v := -15) dX5_toss_36 (by decide) ?_
      refine VP.iret (by exact dX5_toss_38) rfl rfl ⟨?_, rfl, Nat.le_refl _, by omega⟩
      rw [hv, tosR]
      rcases hq with hq | hq
      · rw [if_pos hq]; split <;> rfl
      · rw [if_pos hq]
    · obtain ⟨rfl, hx1, hx2⟩ := hex
      refine VP.catchN (nm := "java/lang/IllegalStateException") [] ⟨13, 22, 25, 285⟩ [] (by rw [htb]; rfl) (fun y hy => by cases hy) (by decide) (by decide) cl_X5_285 ca_ISE hcell hcv hcl dX5_toss_25 (by decide) rfl hW1 hS1 hc1 hz1 hl1 ?_
      show VP X 26 [some (.ref 0), some (.int (nI i)), some (.int _), none] [] h n1 0 0
      refine VP.aload_n dX5_toss_26 rfl ?_
      refine VP.getf dX5_toss_27 fl_X5_11 ht0 rfl ?_
      refine VP.iload_n dX5_toss_30 rfl ?_
      refine VP.aaldN dX5_toss_31 (Or.inr rfl) hsq (by omega) (by decide) (esq i (by omega)) ?_
      refine VP.callVv [] dX5_toss_32 lk_X5_305 rfl (Nat.le_of_ble_eq_true rfl) (Nat.le_of_ble_eq_true rfl) hS rfl (s3_failure _ _ _ _ _ _ _ _ _ _ _ hS) ?_
      exact VP.iret (by exact dX5_toss_35) rfl rfl ⟨by rw [hv, tosR, if_neg hx2, if_neg hx1], rfl, hn1, by omega⟩
  · refine VP.iload_n dX5_toss_11 rfl ?_
    exact VP.iret (by exact dX5_toss_12) rfl rfl ⟨by rw [tossV, if_neg c8], rfl, Nat.le_refl _, by omega⟩
set_option maxRecDepth 20000 in
set_option maxHeartbeats 4000000 in
theorem m_toss (l : Launch) (d : Nat) (h : MH) (n : Nat) (K : KK) (b : Bool) (KI : KK) (S : SS) (m : Nat) (hc : ModAt h K b KI S) (hT : TI K m) (x : Int32) : Sp l mX6_toss (d + 3) [.ref 78, .int x] h n 0 0 (Pv (tossV S x) h n) := by
  have hD := hT.1
  have hm := hD.1.1
  have hm10 := hD.1.2.1
  obtain ⟨⟨th, po, ba, en, tt, hm0⟩, ha, hb, ⟨Km, hmi⟩, ⟨Kr, hre⟩, h83, h84, h85, h86, h87, h88, ⟨X89, h89⟩, ⟨X90, h90⟩, ⟨X91, h91⟩, ⟨X92, h92⟩⟩ := id hc
  show V _ _ _ _ [some (.ref 78), some (.int x), none, none, none] _ _ _ _ _ _
  refine V.aload_n dX6_toss_0 rfl ?_
  refine V.iload_n dX6_toss_1 rfl ?_
  refine V.callVv [_] dX6_toss_2 lk_X6_220 rfl (Nat.le_of_ble_eq_true rfl) (Nat.le_of_ble_eq_true rfl) hm0 rfl (m_wrongRole _ _ _ _ _ _ _ _ _ hc hT _) ?_
  refine V.ist2 dX6_toss_5 (by decide) rfl ?_
  refine V.iload_n dX6_toss_6 rfl ?_
  refine V.if_eq (tgt := 12) dX6_toss_7 (by decide) (fun c7 => ?_) (fun c7 => ?_)
  · obtain ⟨i, hi, rfl, hk, hwi⟩ := wn_0 c7 (by decide)
    refine V.aload_n dX6_toss_12 rfl ?_
    refine V.getf dX6_toss_13 fl_X6_37 hm0 rfl ?_
    refine V.iload_n dX6_toss_16 rfl ?_
    refine V.ialdN dX6_toss_17 h88 (by omega) (by decide) ?_
    refine V.ist3 dX6_toss_18 (by decide) rfl ?_
    refine V.aload_n dX6_toss_19 rfl ?_
    refine V.getf dX6_toss_20 fl_X6_34 hm0 rfl ?_
    refine V.iload_n dX6_toss_23 rfl ?_
    refine V.ialdN dX6_toss_24 h87 (by omega) (by decide) ?_
    refine V.ist4 dX6_toss_25 (by decide) rfl ?_
    refine V.iload dX6_toss_27 rfl ?_
    refine V.iconst (v := nI 3) dX6_toss_29 (by decide) ?_
    refine V.icmp_eq (tgt := 37) dX6_toss_30 (by decide) (fun c30 => ?_) (fun c30 => ?_)
    · refine V.bipush (v := -15) dX6_toss_37 (by decide) ?_
      refine V.goto (tgt := 76) dX6_toss_39 (by decide) ?_
      exact V.iretP (by exact dX6_toss_76) rfl (by first | (rw [tossV, if_neg c7]; done) | (rw [tossV, if_pos c7, clampI (show i < 2147483648 by omega), tosR]; first | (rw [if_pos c30]; done) | (rw [if_neg c30, if_pos c34]; done) | (rw [if_neg c30, if_neg c34, faV, if_pos c45]; done) | (rw [if_neg c30, if_neg c34, faV, if_neg c45, if_pos c59]; done) | (rw [if_neg c30, if_neg c34, faV, if_neg c45, if_neg c59]; done))) rfl
    · refine V.iload_n dX6_toss_33 rfl ?_
      refine V.if_ne (tgt := 42) dX6_toss_34 (by decide) (fun c34 => ?_) (fun c34 => ?_)
      · refine V.iload dX6_toss_42 rfl ?_
        refine V.iconst (v := nI 5) dX6_toss_44 (by decide) ?_
        refine V.icmp_ne (tgt := 55) dX6_toss_45 (by decide) (fun c45 => ?_) (fun c45 => ?_)
        · refine V.iload dX6_toss_55 rfl ?_
          refine V.bipush (v := nI 6) dX6_toss_57 (by decide) ?_
          refine V.icmp_ne (tgt := 75) dX6_toss_59 (by decide) (fun c59 => ?_) (fun c59 => ?_)
          · refine V.iload_n dX6_toss_75 rfl ?_
            exact V.iretP (by exact dX6_toss_76) rfl (by first | (rw [tossV, if_neg c7]; done) | (rw [tossV, if_pos c7, clampI (show i < 2147483648 by omega), tosR]; first | (rw [if_pos c30]; done) | (rw [if_neg c30, if_pos c34]; done) | (rw [if_neg c30, if_neg c34, faV, if_pos c45]; done) | (rw [if_neg c30, if_neg c34, faV, if_neg c45, if_pos c59]; done) | (rw [if_neg c30, if_neg c34, faV, if_neg c45, if_neg c59]; done))) rfl
          · refine V.sipush (v := nI 200) dX6_toss_62 (by decide) ?_
            refine V.iload dX6_toss_65 rfl ?_
            refine V.iload_n dX6_toss_67 rfl ?_
            refine V.callSv [_, _] dX6_toss_68 lk_X6_310 rfl (Nat.le_of_ble_eq_true rfl) (Nat.le_of_ble_eq_true rfl) (s6_countsBy _ _ _ _ _ _) ?_
            refine V.iadd dX6_toss_71 ?_
            refine V.goto (tgt := 76) dX6_toss_72 (by decide) ?_
            exact V.iretP (by exact dX6_toss_76) rfl (by first | (rw [tossV, if_neg c7]; done) | (rw [tossV, if_pos c7, clampI (show i < 2147483648 by omega), tosR]; first | (rw [if_pos c30]; done) | (rw [if_neg c30, if_pos c34]; done) | (rw [if_neg c30, if_neg c34, faV, if_pos c45]; done) | (rw [if_neg c30, if_neg c34, faV, if_neg c45, if_pos c59]; done) | (rw [if_neg c30, if_neg c34, faV, if_neg c45, if_neg c59]; done))) rfl
        · refine V.bipush (v := nI 100) dX6_toss_48 (by decide) ?_
          refine V.iload_n dX6_toss_50 rfl ?_
          refine V.iadd dX6_toss_51 ?_
          refine V.goto (tgt := 76) dX6_toss_52 (by decide) ?_
          exact V.iretP (by exact dX6_toss_76) rfl (by first | (rw [tossV, if_neg c7]; done) | (rw [tossV, if_pos c7, clampI (show i < 2147483648 by omega), tosR]; first | (rw [if_pos c30]; done) | (rw [if_neg c30, if_pos c34]; done) | (rw [if_neg c30, if_neg c34, faV, if_pos c45]; done) | (rw [if_neg c30, if_neg c34, faV, if_neg c45, if_pos c59]; done) | (rw [if_neg c30, if_neg c34, faV, if_neg c45, if_neg c59]; done))) rfl
      · refine V.bipush (v := -15) dX6_toss_37 (by decide) ?_
        refine V.goto (tgt := 76) dX6_toss_39 (by decide) ?_
        exact V.iretP (by exact dX6_toss_76) rfl (by first | (rw [tossV, if_neg c7]; done) | (rw [tossV, if_pos c7, clampI (show i < 2147483648 by omega), tosR]; first | (rw [if_pos c30]; done) | (rw [if_neg c30, if_pos c34]; done) | (rw [if_neg c30, if_neg c34, faV, if_pos c45]; done) | (rw [if_neg c30, if_neg c34, faV, if_neg c45, if_pos c59]; done) | (rw [if_neg c30, if_neg c34, faV, if_neg c45, if_neg c59]; done))) rfl
  · refine V.iload_n dX6_toss_10 rfl ?_
    exact V.iretP (by exact dX6_toss_11) rfl (by first | (rw [tossV, if_neg c7]; done) | (rw [tossV, if_pos c7, clampI (show i < 2147483648 by omega), tosR]; first | (rw [if_pos c30]; done) | (rw [if_neg c30, if_pos c34]; done) | (rw [if_neg c30, if_neg c34, faV, if_pos c45]; done) | (rw [if_neg c30, if_neg c34, faV, if_neg c45, if_pos c59]; done) | (rw [if_neg c30, if_neg c34, faV, if_neg c45, if_neg c59]; done))) rfl
