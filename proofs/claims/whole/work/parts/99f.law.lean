set_option maxRecDepth 20000 in
set_option maxHeartbeats 4000000 in
theorem law_case {l : Launch} (X : PX l mL_law 14 QL) {L : Nat} {xs : Nat → Int32} (sc : Sct X L xs) (hL : L ≤ 3072) (i : Nat) (hi : i + 6 ≤ L) (K : KK) (b : Bool) (KI : KK) (S : SS) (h : MH) (n r : Nat) (hn9 : n + 1 < 1000000) (H : LI K b KI S h) (kn : NX X i n r) (x : Int32) : VP X 40 (lsL i) [.int x] h n (r + 1) (6 * r + 6) := by
  by_cases hr : x.toInt < 0 ∨ 37 < x.toInt
  · refine VP.tableOut (tgt := 1644) dL_law_40 hr (by decide) ?_
    exact VP.cz (by omega) (by omega) (kn K b KI S h n H (Nat.le_refl _) (by omega))
  · have h0 : x.toInt = 0 ∨ x.toInt = 1 ∨ x.toInt = 2 ∨ x.toInt = 3 ∨ x.toInt = 4 ∨ x.toInt = 5 ∨ x.toInt = 6 ∨ x.toInt = 7 ∨ x.toInt = 8 ∨ x.toInt = 9 ∨ x.toInt = 10 ∨ x.toInt = 11 ∨ x.toInt = 12 ∨ x.toInt = 13 ∨ x.toInt = 14 ∨ x.toInt = 15 ∨ x.toInt = 16 ∨ x.toInt = 17 ∨ x.toInt = 18 ∨ x.toInt = 19 ∨ x.toInt = 20 ∨ x.toInt = 21 ∨ x.toInt = 22 ∨ x.toInt = 23 ∨ x.toInt = 24 ∨ x.toInt = 25 ∨ x.toInt = 26 ∨ x.toInt = 27 ∨ x.toInt = 28 ∨ x.toInt = 29 ∨ x.toInt = 30 ∨ x.toInt = 31 ∨ x.toInt = 32 ∨ x.toInt = 33 ∨ x.toInt = 34 ∨ x.toInt = 35 ∨ x.toInt = 36 ∨ x.toInt = 37 := by omega
    rcases h0 with h0 | h0 | h0 | h0 | h0 | h0 | h0 | h0 | h0 | h0 | h0 | h0 | h0 | h0 | h0 | h0 | h0 | h0 | h0 | h0 | h0 | h0 | h0 | h0 | h0 | h0 | h0 | h0 | h0 | h0 | h0 | h0 | h0 | h0 | h0 | h0 | h0 | h0
    · exact VP.tableIn (off := 168) (tgt := 208) dL_law_40 (by rw [h0]; decide) (by rw [h0]; decide) (by rw [h0]; rfl) (by decide) (lc_0 X sc hL hi K b KI S h n r hn9 H kn)
    · exact VP.tableIn (off := 193) (tgt := 233) dL_law_40 (by rw [h0]; decide) (by rw [h0]; decide) (by rw [h0]; rfl) (by decide) (lc_1 X sc hL hi K b KI S h n r hn9 H kn)
    · exact VP.tableIn (off := 218) (tgt := 258) dL_law_40 (by rw [h0]; decide) (by rw [h0]; decide) (by rw [h0]; rfl) (by decide) (lc_2 X sc hL hi K b KI S h n r hn9 H kn)
    · exact VP.tableIn (off := 243) (tgt := 283) dL_law_40 (by rw [h0]; decide) (by rw [h0]; decide) (by rw [h0]; rfl) (by decide) (lc_3 X sc hL hi K b KI S h n r hn9 H kn)
    · exact VP.tableIn (off := 280) (tgt := 320) dL_law_40 (by rw [h0]; decide) (by rw [h0]; decide) (by rw [h0]; rfl) (by decide) (lc_4 X sc hL hi K b KI S h n r hn9 H kn)
    · exact VP.tableIn (off := 317) (tgt := 357) dL_law_40 (by rw [h0]; decide) (by rw [h0]; decide) (by rw [h0]; rfl) (by decide) (lc_5 X sc hL hi K b KI S h n r hn9 H kn)
    · exact VP.tableIn (off := 354) (tgt := 394) dL_law_40 (by rw [h0]; decide) (by rw [h0]; decide) (by rw [h0]; rfl) (by decide) (lc_6 X sc hL hi K b KI S h n r hn9 H kn)
    · exact VP.tableIn (off := 391) (tgt := 431) dL_law_40 (by rw [h0]; decide) (by rw [h0]; decide) (by rw [h0]; rfl) (by decide) (lc_7 X sc hL hi K b KI S h n r hn9 H kn)
    · exact VP.tableIn (off := 428) (tgt := 468) dL_law_40 (by rw [h0]; decide) (by rw [h0]; decide) (by rw [h0]; rfl) (by decide) (lc_8 X sc hL hi K b KI S h n r hn9 H kn)
    · exact VP.tableIn (off := 453) (tgt := 493) dL_law_40 (by rw [h0]; decide) (by rw [h0]; decide) (by rw [h0]; rfl) (by decide) (lc_9 X sc hL hi K b KI S h n r hn9 H kn)
    · exact VP.tableIn (off := 478) (tgt := 518) dL_law_40 (by rw [h0]; decide) (by rw [h0]; decide) (by rw [h0]; rfl) (by decide) (lc_10 X sc hL hi K b KI S h n r hn9 H kn)
    · exact VP.tableIn (off := 491) (tgt := 531) dL_law_40 (by rw [h0]; decide) (by rw [h0]; decide) (by rw [h0]; rfl) (by decide) (lc_11 X sc hL hi K b KI S h n r hn9 H kn)
    · exact VP.tableIn (off := 516) (tgt := 556) dL_law_40 (by rw [h0]; decide) (by rw [h0]; decide) (by rw [h0]; rfl) (by decide) (lc_12 X sc hL hi K b KI S h n r hn9 H kn)
    · exact VP.tableIn (off := 553) (tgt := 593) dL_law_40 (by rw [h0]; decide) (by rw [h0]; decide) (by rw [h0]; rfl) (by decide) (lc_13 X sc hL hi K b KI S h n r hn9 H kn)
    · exact VP.tableIn (off := 590) (tgt := 630) dL_law_40 (by rw [h0]; decide) (by rw [h0]; decide) (by rw [h0]; rfl) (by decide) (lc_14 X sc hL hi K b KI S h n r hn9 H kn)
    · exact VP.tableIn (off := 627) (tgt := 667) dL_law_40 (by rw [h0]; decide) (by rw [h0]; decide) (by rw [h0]; rfl) (by decide) (lc_15 X sc hL hi K b KI S h n r hn9 H kn)
    · exact VP.tableIn (off := 688) (tgt := 728) dL_law_40 (by rw [h0]; decide) (by rw [h0]; decide) (by rw [h0]; rfl) (by decide) (lc_16 X sc hL hi K b KI S h n r hn9 H kn)
    · exact VP.tableIn (off := 761) (tgt := 801) dL_law_40 (by rw [h0]; decide) (by rw [h0]; decide) (by rw [h0]; rfl) (by decide) (lc_17 X sc hL hi K b KI S h n r hn9 H kn)
    · exact VP.tableIn (off := 798) (tgt := 838) dL_law_40 (by rw [h0]; decide) (by rw [h0]; decide) (by rw [h0]; rfl) (by decide) (lc_18 X sc hL hi K b KI S h n r hn9 H kn)
    · exact VP.tableIn (off := 847) (tgt := 887) dL_law_40 (by rw [h0]; decide) (by rw [h0]; decide) (by rw [h0]; rfl) (by decide) (lc_19 X sc hL hi K b KI S h n r hn9 H kn)
    · exact VP.tableIn (off := 884) (tgt := 924) dL_law_40 (by rw [h0]; decide) (by rw [h0]; decide) (by rw [h0]; rfl) (by decide) (lc_20 X sc hL hi K b KI S h n r hn9 H kn)
    · exact VP.tableIn (off := 933) (tgt := 973) dL_law_40 (by rw [h0]; decide) (by rw [h0]; decide) (by rw [h0]; rfl) (by decide) (lc_21 X sc hL hi K b KI S h n r hn9 H kn)
    · exact VP.tableIn (off := 970) (tgt := 1010) dL_law_40 (by rw [h0]; decide) (by rw [h0]; decide) (by rw [h0]; rfl) (by decide) (lc_22 X sc hL hi K b KI S h n r hn9 H kn)
    · exact VP.tableIn (off := 1007) (tgt := 1047) dL_law_40 (by rw [h0]; decide) (by rw [h0]; decide) (by rw [h0]; rfl) (by decide) (lc_23 X sc hL hi K b KI S h n r hn9 H kn)
    · exact VP.tableIn (off := 1056) (tgt := 1096) dL_law_40 (by rw [h0]; decide) (by rw [h0]; decide) (by rw [h0]; rfl) (by decide) (lc_24 X sc hL hi K b KI S h n r hn9 H kn)
    · exact VP.tableIn (off := 1117) (tgt := 1157) dL_law_40 (by rw [h0]; decide) (by rw [h0]; decide) (by rw [h0]; rfl) (by decide) (lc_25 X sc hL hi K b KI S h n r hn9 H kn)
    · exact VP.tableIn (off := 1154) (tgt := 1194) dL_law_40 (by rw [h0]; decide) (by rw [h0]; decide) (by rw [h0]; rfl) (by decide) (lc_26 X sc hL hi K b KI S h n r hn9 H kn)
    · exact VP.tableIn (off := 1179) (tgt := 1219) dL_law_40 (by rw [h0]; decide) (by rw [h0]; decide) (by rw [h0]; rfl) (by decide) (lc_27 X sc hL hi K b KI S h n r hn9 H kn)
    · exact VP.tableIn (off := 1204) (tgt := 1244) dL_law_40 (by rw [h0]; decide) (by rw [h0]; decide) (by rw [h0]; rfl) (by decide) (lc_28 X sc hL hi K b KI S h n r hn9 H kn)
    · exact VP.tableIn (off := 1217) (tgt := 1257) dL_law_40 (by rw [h0]; decide) (by rw [h0]; decide) (by rw [h0]; rfl) (by decide) (lc_29 X sc hL hi K b KI S h n r hn9 H kn)
    · exact VP.tableIn (off := 1230) (tgt := 1270) dL_law_40 (by rw [h0]; decide) (by rw [h0]; decide) (by rw [h0]; rfl) (by decide) (lc_30 X sc hL hi K b KI S h n r hn9 H kn)
    · exact VP.tableIn (off := 1255) (tgt := 1295) dL_law_40 (by rw [h0]; decide) (by rw [h0]; decide) (by rw [h0]; rfl) (by decide) (lc_31 X sc hL hi K b KI S h n r hn9 H kn)
    · exact VP.tableIn (off := 1316) (tgt := 1356) dL_law_40 (by rw [h0]; decide) (by rw [h0]; decide) (by rw [h0]; rfl) (by decide) (lc_32 X sc hL hi K b KI S h n r hn9 H kn)
    · exact VP.tableIn (off := 1365) (tgt := 1405) dL_law_40 (by rw [h0]; decide) (by rw [h0]; decide) (by rw [h0]; rfl) (by decide) (lc_33 X sc hL hi K b KI S h n r hn9 H kn)
    · exact VP.tableIn (off := 1414) (tgt := 1454) dL_law_40 (by rw [h0]; decide) (by rw [h0]; decide) (by rw [h0]; rfl) (by decide) (lc_34 X sc hL hi K b KI S h n r hn9 H kn)
    · exact VP.tableIn (off := 1481) (tgt := 1521) dL_law_40 (by rw [h0]; decide) (by rw [h0]; decide) (by rw [h0]; rfl) (by decide) (lc_35 X sc hL hi K b KI S h n r hn9 H kn)
    · exact VP.tableIn (off := 1554) (tgt := 1594) dL_law_40 (by rw [h0]; decide) (by rw [h0]; decide) (by rw [h0]; rfl) (by decide) (lc_36 X sc hL hi K b KI S h n r hn9 H kn)
    · exact VP.tableIn (off := 1579) (tgt := 1619) dL_law_40 (by rw [h0]; decide) (by rw [h0]; decide) (by rw [h0]; rfl) (by decide) (lc_37 X sc hL hi K b KI S h n r hn9 H kn)
set_option maxRecDepth 20000 in
set_option maxHeartbeats 4000000 in
theorem law_loop {l : Launch} (X : PX l mL_law 14 QL) {L : Nat} {xs : Nat → Int32} (sc : Sct X L xs) (hL : L ≤ 3072) : ∀ (r i : Nat) (K : KK) (b : Bool) (KI : KK) (S : SS) (h : MH) (n : Nat), L < i + 6 * r + 6 → i ≤ L + 6 → n + r + 1 < 1000000 → LI K b KI S h → VP X 23 (lsL i) [] h n r (6 * r) := by
  intro r
  induction r with
  | zero =>
    intro i K b KI S h n h1 h2 h3 H
    refine VP.iload dL_law_23 rfl ?_
    refine VP.aload_n dL_law_25 rfl ?_
    refine VP.slen sc dL_law_26 ?_
    refine VP.bipush (v := nI 6) dL_law_27 (by decide) ?_
    refine VP.isub dL_law_29 ?_
    refine VP.icmp_gt (tgt := 1650) dL_law_30 (by decide) (fun _ => ?_) (fun q => absurd ?_ q)
    · refine VP.iconst (v := 1) dL_law_1650 (by decide) ?_
      exact VP.iret (by exact dL_law_1651) rfl (by decide) rfl
    · rw [Int32.lt_iff_toInt_lt, pk_sub_toInt2 (by omega) (by omega), nI_toInt (by omega)]
      omega
  | succ r ih =>
    intro i K b KI S h n h1 h2 h3 H
    show VP X 23 (lsL i) [] h n (r + 1) (6 * r + 6)
    refine VP.iload dL_law_23 rfl ?_
    refine VP.aload_n dL_law_25 rfl ?_
    refine VP.slen sc dL_law_26 ?_
    refine VP.bipush (v := nI 6) dL_law_27 (by decide) ?_
    refine VP.isub dL_law_29 ?_
    refine VP.icmp_gt (tgt := 1650) dL_law_30 (by decide) (fun _ => ?_) (fun q => ?_)
    · refine VP.iconst (v := 1) dL_law_1650 (by decide) ?_
      exact VP.iret (by exact dL_law_1651) rfl (by decide) rfl
    · have hi : i + 6 ≤ L := by
        refine Nat.le_of_not_lt (fun q2 => q ?_)
        rw [Int32.lt_iff_toInt_lt, pk_sub_toInt2 (by omega) (by omega), nI_toInt (by omega)]
        omega
      refine VP.aload_n dL_law_33 rfl ?_
      refine VP.iload dL_law_34 rfl ?_
      refine VP.sld sc hL dL_law_36 (by omega) ?_
      refine VP.bipush (v := nI 63) dL_law_37 (by decide) ?_
      refine VP.iand dL_law_39 ?_
      refine law_case X sc hL i hi K b KI S h n r (by omega) H (fun K1 b1 KI1 S1 g n1 H1 a1 a2 => ?_) _
      refine VP.iinc (v := nI (i + 6)) dL_law_1644 rfl (by rw [← nI_add]; rfl) (by decide) rfl ?_
      change VP X 1647 (lsL (i + 6)) [] g n1 r (6 * r)
      refine VP.goto (tgt := 23) dL_law_1647 (by decide) ?_
      exact ih (i + 6) K1 b1 KI1 S1 g n1 (by omega) (by omega) (by omega) H1
set_option maxRecDepth 20000 in
set_option maxHeartbeats 4000000 in
theorem law_all {l : Launch} (X : PX l mL_law 14 QL) {L : Nat} {xs : Nat → Int32} (sc : Sct X L xs) (hL : L ≤ 3072) : VP X 0 [some (.ref 4000000), none, none, none, none, none, none, none] [] (fun _ => none) 0 607 6673 := by
  refine VP.new (c := 606) (z := 6666) (N := 7) dL_law_0 nc_L_8 (by omega) ?_
  change VP X 3 _ _ _ 1 _ _
  refine VP.dup dL_law_3 rfl ?_
  refine VP.callI (c := 529) (z := 4859) (c1 := 77) (z1 := 1807) [] dL_law_4 lk_L_17 rfl (Nat.le_of_ble_eq_true rfl) (Nat.le_of_ble_eq_true rfl) (s5_init l 10 _ (hset_self _ _ _)) (fun r1 h1 n1 q => ?_)
  obtain ⟨rfl, rfl, hc⟩ := q
  refine VP.ast1 dL_law_7 (by decide) rfl ?_
  refine VP.new (c := 528) (z := 4839) (N := 20) dL_law_8 nc_L_18 (by omega) ?_
  change VP X 11 _ _ _ 79 _ _
  refine VP.dup dL_law_11 rfl ?_
  refine VP.callI (c := 514) (z := 3079) (c1 := 14) (z1 := 1760) [] dL_law_12 lk_L_20 rfl (Nat.le_of_ble_eq_true rfl) (Nat.le_of_ble_eq_true rfl) (s6_init l 11 _ (hset_self _ _ _)) (fun r2 h2 n2 q => ?_)
  obtain ⟨rfl, rfl, hm, ho⟩ := q
  refine VP.ast2 dL_law_15 (by decide) rfl ?_
  refine VP.iconst (v := nI 1) dL_law_16 (by decide) ?_
  refine VP.newL (c := 513) (z := 3078) (N := 1) dL_law_17 w_ac_long (nI_pos (by omega)) (nI_clamp (by omega)) (by omega) (by omega) ?_
  change VP X 19 _ _ _ 94 _ _
  refine VP.ast3 dL_law_19 (by decide) rfl ?_
  refine VP.iconst (v := nI 0) dL_law_20 (by decide) ?_
  refine VP.ist4 dL_law_21 (by decide) rfl ?_
  have hc2 : ClsAt h2 KS false KI0 S00 := hc.far (fun q hq => by rw [ho q hq, hset_ne _ _ (by omega)])
  exact law_loop X sc hL 513 0 KS false KI0 S00 _ 94 (by omega) (by omega) (by omega) ⟨INV_0, hc2.far (fun q hq => hset_ne _ _ (by omega)), hm.far (fun q a1 a2 => hset_ne _ _ (by omega)), _, hset_self _ _ _⟩
