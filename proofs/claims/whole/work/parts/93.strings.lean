/-! String constants: number j stands at 1000000 + j, its row of bytes at 2000000 + j -/
/-- a String's sign -/
def sby (j k : Nat) : Int32 := (bytS.getD j []).getD k 0
section VSC
variable {l : Launch} {M : MT} {d pc : Nat} {ls : List (Option Value)} {st : List Value} {h : MH} {n c z : Nat} {Q : Option Value → MH → Nat → Prop}
theorem V.ldcS {i : Nat} (j : Nat) (hd : decode M.2.1 pc = .ok (.ldc i, 2)) (hj : j < 9) (hi : sIdx j = i) (ho : sOwn j = M.1.cls) (kk : V l M d (pc + 2) ls (.ref (1000000 + j) :: st) h n c z Q) : V l M d pc ls st h n c z Q := by
  intro p e R s m args below meth cd D T ad adV B lsA H locs cells slots cm sm Qs C hW hS hc hz hcm hzm hl hE
  have hr := C.2.2.2.2.2.2.1.2.1 j hj
  rw [hi, ho] at hr
  exact va_ldcS C.1 C.2.1 C.2.2.2.1 hr hd (kk p e R s m args below meth cd D T ad adV B lsA H locs cells slots cm sm Qs C hW hS hc hz hcm hzm hl hE)
theorem V.getfS {j idx : Nat} (hd : decode M.2.1 pc = .ok (.getfield idx, 3)) (hj : j < 6) (hk : Cond.fieldLink M.1.cls idx "java/lang/String" "value" "[B" ∈ WG) (kk : V l M d (pc + 3) ls (.ref (2000000 + j) :: st) h n c z Q) : V l M d pc ls (.ref (1000000 + j) :: st) h n c z Q := by
  intro p e R s m args below meth cd D T ad adV B lsA H locs cells slots cm sm Qs C hW hS hc hz hcm hzm hl hE
  have hr := (C.2.2.2.2.2.2.1.1.1 j hj).2.2.1
  rw [C.2.2.2.2.2.2.1.2.2.2.2.2.2.2 j hj] at hr
  exact vk_getf C.1 C.2.1 hr hS C.2.2.2.1 (C.2.2.2.2.1 _ hk) (fun x q => q) hd (kk p e R s m args below meth cd D T ad adV B lsA H locs cells slots cm sm Qs C hW hS hc hz hcm hzm hl hE)
theorem V.getfC {j idx : Nat} (hd : decode M.2.1 pc = .ok (.getfield idx, 3)) (hj : j < 6) (hk : Cond.fieldLink M.1.cls idx "java/lang/String" "coder" "B" ∈ WG) (kk : V l M d (pc + 3) ls (.int (nI 0) :: st) h n c z Q) : V l M d pc ls (.ref (1000000 + j) :: st) h n c z Q := by
  intro p e R s m args below meth cd D T ad adV B lsA H locs cells slots cm sm Qs C hW hS hc hz hcm hzm hl hE
  exact vk_getf C.1 C.2.1 (C.2.2.2.2.2.2.1.1.1 j hj).2.1 hS C.2.2.2.1 (C.2.2.2.2.1 _ hk) (fun x q => q) hd (kk p e R s m args below meth cd D T ad adV B lsA H locs cells slots cm sm Qs C hW hS hc hz hcm hzm hl hE)
theorem V.alenS {j : Nat} (hd : decode M.2.1 pc = .ok (.arraylength, 1)) (hj : j < 6) (kk : V l M d (pc + 1) ls (.int (nI (lenS.getD j 0)) :: st) h n c z Q) : V l M d pc ls (.ref (2000000 + j) :: st) h n c z Q := by
  intro p e R s m args below meth cd D T ad adV B lsA H locs cells slots cm sm Qs C hW hS hc hz hcm hzm hl hE
  have hr := (C.2.2.2.2.2.2.1.1.1 j hj).2.2.2
  rw [C.2.2.2.2.2.2.1.2.2.2.2.2.2.2 j hj] at hr
  exact va_tlen C.1 C.2.1 hr hS rfl hd (kk p e R s m args below meth cd D T ad adV B lsA H locs cells slots cm sm Qs C hW hS hc hz hcm hzm hl hE)
theorem V.baldS {j k : Nat} (hd : decode M.2.1 pc = .ok (.baload, 1)) (hj : j < 6) (hk : k < lenS.getD j 0) (hk2 : k < 1000) (kk : V l M d (pc + 1) ls (.int (sby j k) :: st) h n c z Q) : V l M d pc ls (.int (nI k) :: .ref (2000000 + j) :: st) h n c z Q := by
  intro p e R s m args below meth cd D T ad adV B lsA H locs cells slots cm sm Qs C hW hS hc hz hcm hzm hl hE
  have hr := (C.2.2.2.2.2.2.1.1.1 j hj).2.2.2
  rw [C.2.2.2.2.2.2.1.2.2.2.2.2.2.2 j hj] at hr
  refine va_tb C.1 C.2.1 hr hS (i := nI k) (v := .int (sby j k)) ?_ ?_ hd (kk p e R s m args below meth cd D T ad adV B lsA H locs cells slots cm sm Qs C hW hS hc hz hcm hzm hl hE)
  · intro q
    rw [nI_clamp (by omega)] at q
    rcases q with q | q
    · exact absurd q (nI_pos (by omega))
    · omega
  · rw [nI_clamp (by omega)]
    rfl
theorem V.getsZ {idx : Nat} (hd : decode M.2.1 pc = .ok (.getstatic idx, 3)) (hk : Cond.fieldLink M.1.cls idx "java/lang/String" "COMPACT_STRINGS" "Z" ∈ WG) (kk : V l M d (pc + 3) ls (.int (bI true) :: st) h n c z Q) : V l M d pc ls st h n c z Q := by
  intro p e R s m args below meth cd D T ad adV B lsA H locs cells slots cm sm Qs C hW hS hc hz hcm hzm hl hE
  exact va_gets C.1 C.2.1 C.2.2.2.2.2.2.1.2.2.1 hS C.2.2.2.1 (C.2.2.2.2.1 _ hk) (fun x q => q) hd (kk p e R s m args below meth cd D T ad adV B lsA H locs cells slots cm sm Qs C hW hS hc hz hcm hzm hl hE)
theorem V.getsF {idx : Nat} (hd : decode M.2.1 pc = .ok (.getstatic idx, 3)) (hk : Cond.fieldLink M.1.cls idx "jdk/internal/util/Preconditions" "SIOOBE_FORMATTER" "Ljava/util/function/BiFunction;" ∈ WG) (k1 : V l M d (pc + 3) ls (.null :: st) h n c z Q) (k2 : V l M d (pc + 3) ls (.ref 3000000 :: st) h n c z Q) : V l M d pc ls st h n c z Q := by
  intro p e R s m args below meth cd D T ad adV B lsA H locs cells slots cm sm Qs C hW hS hc hz hcm hzm hl hE
  rcases C.2.2.2.2.2.2.1.2.2.2.1 with hr | hr
  · exact va_gets C.1 C.2.1 hr hS C.2.2.2.1 (C.2.2.2.2.1 _ hk) (fun x q => q) hd (k1 p e R s m args below meth cd D T ad adV B lsA H locs cells slots cm sm Qs C hW hS hc hz hcm hzm hl hE)
  · exact va_gets C.1 C.2.1 hr hS C.2.2.2.1 (C.2.2.2.2.1 _ hk) (fun x q => q) hd (k2 p e R s m args below meth cd D T ad adV B lsA H locs cells slots cm sm Qs C hW hS hc hz hcm hzm hl hE)
theorem V.callVS {N : MT} {idx k c1 z1 j : Nat} {Q1 : Option Value → MH → Nat → Prop} (As : List Value) (hd : decode M.2.1 pc = .ok (.invokevirtual idx, 3)) (hk : LkV M.1.cls idx N k) (hA : As.length = k) (hlen : (ls0 (.ref (1000000 + j) :: As)).length ≤ N.2.2.1) (hst : (st.map fun v => v.category).sum ≤ 8)
    (hj : j < 6) (hci : N.1.cls = "java/lang/String")
    (hN : V l N d 0 (lsE N.2.2.1 (.ref (1000000 + j) :: As)) [] h n c1 z1 Q1) (kk : ∀ (r : Option Value) (h1 : MH) (n1 : Nat), Q1 r h1 n1 → V l M (d + 1) (pc + 3) ls (r.toList ++ st) h1 n1 c z Q) : V l M (d + 1) pc ls (As.reverse ++ .ref (1000000 + j) :: st) h n (c + c1) (z + z1) Q := by
  intro p e R s m args below meth cd D T ad adV B lsA H locs cells slots cm sm Qs C hW hS hc hz hcm hzm hl hE
  obtain ⟨hx, hb, hml, hown, hts, hK, hX, had, hB, hR1, hR2, hin, hlt⟩ := id C
  obtain ⟨hlk, ⟨hstt, hsel⟩, hini, hcode, ⟨hd1, hd2, hd3⟩, hnl, hpl⟩ := hk
  have hM : Met l N.1 (WS N) (rmv d c1 z1) (PcV D T ad adV B (.ref (1000000 + j) :: As) h n) (QcV D T ad B Q1) c1 z1 (fun q => B ≤ q) := Met.ofV hlt had hpl hlen hN
  have hrec : ∃ cellB : Cell, H[ad (1000000 + j)]? = some cellB ∧ cellB.vm.isStatics = false ∧ s.vm.findClass N.1.cls = some cellB.cls := by
    rw [hci]
    exact vk_recv (adK := fun i => ad (1000000 + i)) hX.1 hj hS
  have hpre : PreV s H N.1.cls (ad (1000000 + j)) (PcV D T ad adV B (.ref (1000000 + j) :: As) h n) (As.map (mv ad)) := ⟨PcV.blind, hrec, fun U hU hWm => ⟨rfl, hK.warm hWm, by rw [hU]; exact (hX.kept hS.2.1).warm hWm, by rw [hU]; exact hW⟩⟩
  have hrun : va_Run p l e R s m args below meth cd H locs cells slots c1 z1 (F0 m pc lsA ((As.reverse ++ .ref (1000000 + j) :: st).map (mv ad))) (st.map (mv ad)) (QcV D T ad B Q1 (Value.ref (ad (1000000 + j)) :: As.map (mv ad)).toArray) (fun q => B ≤ q) := by
    have hstk : (F0 m pc lsA ((As.reverse ++ .ref (1000000 + j) :: st).map (mv ad))).stack = (As.map (mv ad)).reverse ++ .ref (ad (1000000 + j)) :: st.map (mv ad) := by
      show (As.reverse ++ .ref (1000000 + j) :: st).map (mv ad) = _
      rw [List.map_append, List.map_reverse]
      rfl
    have hroom : 2 * (F0 m pc lsA ((As.reverse ++ .ref (1000000 + j) :: st).map (mv ad))).monitorRoom + ((st.map (mv ad)).map fun v => v.category).sum ≤ 8 := lv_room (by rw [sum_cat]; exact hst)
    have hRR : (rmv d c1 z1).frames + 1 ≤ R.frames ∧ 8 + (N.2.2.1 + 11) + (rmv d c1 z1).locals ≤ R.locals := ⟨hR1, by show 8 + (N.2.2.1 + 11) + 40 * d ≤ _; omega⟩
    rcases hlk with hlk | hlk
    · exact va_runV (Ts := WG) ⟨hx, hb, hml, hown, hts⟩ hM ⟨callB_of k hts (wg_good hcode) rfl rfl rfl (hts _ hini) (hts _ hlk) ⟨hd1, hd2, hd3⟩ hRR, hts _ hstt, hts _ hsel⟩ hpre rfl (by rw [List.length_map]; exact hA) hl.1 hstk hroom hd ⟨by omega, by omega⟩
    · exact va_runVN (Ts := WG) ⟨hx, hb, hml, hown, hts⟩ hM ⟨va_cnB k hts (wg_good hcode) rfl rfl rfl (hK.2.1 _ hlk) (hts _ hini) ⟨hd1, hd2, hd3⟩ hRR, hts _ hstt, hts _ hsel⟩ hpre rfl (by rw [List.length_map]; exact hA) hl.1 hstk hroom hd ⟨by omega, by omega⟩
  refine m_after hrun hS (fun r h1 n1 H1 locs1 hq hW1 hS1 => ?_)
  have k1 := kk r h1 n1 hq p e R s m args below meth cd D T ad adV B lsA H1 locs1 (cells + c1) (slots + z1) cm sm Qs C hW1 hS1 (by omega) (by omega) hcm hzm hl hE
  rw [List.map_append, show (r.toList).map (mv ad) = (r.map (mv ad)).toList by cases r <;> rfl] at k1
  exact k1
theorem V.callVSv {N : MT} {idx k j : Nat} {v : Int32} {h2 : MH} (As : List Value) (hd : decode M.2.1 pc = .ok (.invokevirtual idx, 3)) (hk : LkV M.1.cls idx N k) (hA : As.length = k) (hlen : (ls0 (.ref (1000000 + j) :: As)).length ≤ N.2.2.1) (hst : (st.map fun v => v.category).sum ≤ 8)
    (hj : j < 6) (hci : N.1.cls = "java/lang/String") (hN : Sp l N d (.ref (1000000 + j) :: As) h n 0 0 (Pv v h2 n)) (kk : V l M (d + 1) (pc + 3) ls (.int v :: st) h2 n c z Q) : V l M (d + 1) pc ls (As.reverse ++ .ref (1000000 + j) :: st) h n c z Q :=
  V.callVS (c := c) (z := z) As hd hk hA hlen hst hj hci hN (fun r h1 n1 q => by obtain ⟨rfl, rfl, rfl⟩ := q; exact kk)
end VSC
theorem fs_J0_9 : Cond.fieldLink RJ0 9 "java/lang/String" "value" "[B" ∈ WG := inW 1402 (by decide +kernel) rfl
theorem fs_J0_15 : Cond.fieldLink RJ0 15 "java/lang/String" "coder" "B" ∈ WG := inW 1403 (by decide +kernel) rfl
theorem fs_J0_38 : Cond.fieldLink RJ0 38 "java/lang/String" "COMPACT_STRINGS" "Z" ∈ WG := inW 334 (by decide +kernel) rfl
theorem fs_J0_1053 : Cond.fieldLink RJ0 1053 "jdk/internal/util/Preconditions" "SIOOBE_FORMATTER" "Ljava/util/function/BiFunction;" ∈ WG := inW 350 (by decide +kernel) rfl
set_option maxRecDepth 20000 in
set_option maxHeartbeats 4000000 in
theorem sJ_isEmpty (l : Launch) (d : Nat) (h : MH) (n j : Nat) (hj : j < 6) (hl : lenS.getD j 0 < 1000) : Sp l mJ0_isEmpty_aae02 d [.ref (1000000 + j)] h n 0 0 (Pv (bI (decide (lenS.getD j 0 = 0))) h n) := by
  show V _ _ _ _ [some (.ref (1000000 + j))] _ _ _ _ _ _
  refine V.aload_n dJ0_isEmpty_aae02_0 rfl ?_
  refine V.getfS dJ0_isEmpty_aae02_1 hj fs_J0_9 ?_
  refine V.alenS dJ0_isEmpty_aae02_4 hj ?_
  refine V.if_ne (tgt := 12) dJ0_isEmpty_aae02_5 (by decide) (fun q => ?_) (fun q => ?_)
  · have e : ¬ lenS.getD j 0 = 0 := fun e => q (by rw [e]; rfl)
    refine V.iconst (v := nI 0) dJ0_isEmpty_aae02_12 (by decide) ?_
    exact V.iret (by exact dJ0_isEmpty_aae02_13) rfl (bI_narrow false) ⟨by rw [decide_eq_false e]; rfl, rfl, rfl⟩
  · have e : lenS.getD j 0 = 0 := (nI_eq (by omega) (by omega)).mp q
    refine V.iconst (v := nI 1) dJ0_isEmpty_aae02_8 (by decide) ?_
    refine V.goto (tgt := 13) dJ0_isEmpty_aae02_9 (by decide) ?_
    exact V.iret (by exact dJ0_isEmpty_aae02_13) rfl (bI_narrow true) ⟨by rw [decide_eq_true e]; rfl, rfl, rfl⟩
set_option maxRecDepth 20000 in
set_option maxHeartbeats 4000000 in
theorem sJ_coder (l : Launch) (d : Nat) (h : MH) (n j : Nat) (hj : j < 6) : Sp l mJ0_coder_7d493 d [.ref (1000000 + j)] h n 0 0 (Pv (nI 0) h n) := by
  show V _ _ _ _ [some (.ref (1000000 + j))] _ _ _ _ _ _
  refine V.getsZ dJ0_coder_7d493_0 fs_J0_38 ?_
  refine V.if_eqB (tgt := 13) dJ0_coder_7d493_3 (by decide) (fun q => by cases q) (fun q => ?_)
  refine V.aload_n dJ0_coder_7d493_6 rfl ?_
  refine V.getfC dJ0_coder_7d493_7 hj fs_J0_15 ?_
  refine V.goto (tgt := 14) dJ0_coder_7d493_10 (by decide) ?_
  exact V.iret (by exact dJ0_coder_7d493_14) rfl (by decide) ⟨rfl, rfl, rfl⟩
set_option maxRecDepth 20000 in
set_option maxHeartbeats 4000000 in
theorem sJ_length (l : Launch) (d : Nat) (h : MH) (n j : Nat) (hj : j < 6) (hl : nI (lenS.getD j 0) >>> (nI 0 &&& 31) = nI (lenS.getD j 0)) : Sp l mJ0_length_8abf5 (d + 1) [.ref (1000000 + j)] h n 0 0 (Pv (nI (lenS.getD j 0)) h n) := by
  show V _ _ _ _ [some (.ref (1000000 + j))] _ _ _ _ _ _
  refine V.aload_n dJ0_length_8abf5_0 rfl ?_
  refine V.getfS dJ0_length_8abf5_1 hj fs_J0_9 ?_
  refine V.alenS dJ0_length_8abf5_4 hj ?_
  refine V.aload_n dJ0_length_8abf5_5 rfl ?_
  refine V.callVSv [] dJ0_length_8abf5_6 lk_J0_335 rfl (Nat.le_of_ble_eq_true rfl) (Nat.le_of_ble_eq_true rfl) hj rfl (sJ_coder l _ _ _ _ hj) ?_
  refine V.ishr dJ0_length_8abf5_9 ?_
  exact V.iretP (by exact dJ0_length_8abf5_10) rfl hl rfl
set_option maxRecDepth 20000 in
set_option maxHeartbeats 4000000 in
theorem sJ_isLatin1 (l : Launch) (d : Nat) (h : MH) (n j : Nat) (hj : j < 6) : Sp l mJ0_isLatin1_aae02 d [.ref (1000000 + j)] h n 0 0 (Pv (bI true) h n) := by
  show V _ _ _ _ [some (.ref (1000000 + j))] _ _ _ _ _ _
  refine V.getsZ dJ0_isLatin1_aae02_0 fs_J0_38 ?_
  refine V.if_eqB (tgt := 17) dJ0_isLatin1_aae02_3 (by decide) (fun q => by cases q) (fun q => ?_)
  refine V.aload_n dJ0_isLatin1_aae02_6 rfl ?_
  refine V.getfC dJ0_isLatin1_aae02_7 hj fs_J0_15 ?_
  refine V.if_ne (tgt := 17) dJ0_isLatin1_aae02_10 (by decide) (fun q => absurd rfl q) (fun q => ?_)
  refine V.iconst (v := nI 1) dJ0_isLatin1_aae02_13 (by decide) ?_
  refine V.goto (tgt := 18) dJ0_isLatin1_aae02_14 (by decide) ?_
  exact V.iret (by exact dJ0_isLatin1_aae02_18) rfl (bI_narrow true) ⟨rfl, rfl, rfl⟩
set_option maxRecDepth 20000 in
set_option maxHeartbeats 4000000 in
theorem sJ_check3 (l : Launch) (d : Nat) (h : MH) (n k N : Nat) (hk : k < N) (hN : N < 1000) (v : Value) (hv : v.category = 1) : Sp l mJ3_checkIndex_8e157 d [.int (nI k), .int (nI N), v] h n 0 0 (Pv (nI k) h n) := by
  have e : ls0 [.int (nI k), .int (nI N), v] = [some (.int (nI k)), some (.int (nI N)), some v] := by
    rw [show ls0 [.int (nI k), .int (nI N), v] = some (.int (nI k)) :: some (.int (nI N)) :: ls0 [v] from rfl, ls0, if_neg (by omega)]
    rfl
  show V _ _ _ _ (ls0 [.int (nI k), .int (nI N), v] ++ List.replicate (3 - (ls0 [.int (nI k), .int (nI N), v]).length) none) _ _ _ _ _ _
  rw [e]
  show V _ _ _ _ [some (.int (nI k)), some (.int (nI N)), some v] _ _ _ _ _ _
  refine V.iload_n dJ3_checkIndex_8e157_0 rfl ?_
  refine V.if_lt (tgt := 9) dJ3_checkIndex_8e157_1 (by decide) (fun q => absurd q (nI_pos (by omega))) (fun q => ?_)
  refine V.iload_n dJ3_checkIndex_8e157_4 rfl ?_
  refine V.iload_n dJ3_checkIndex_8e157_5 rfl ?_
  refine V.icmp_ltN (tgt := 16) dJ3_checkIndex_8e157_6 (by decide) (by omega) (by omega) (fun q => ?_) (fun q => absurd q (by omega))
  refine V.iload_n dJ3_checkIndex_8e157_16 rfl ?_
  exact V.iretP (by exact dJ3_checkIndex_8e157_17) rfl rfl rfl
set_option maxRecDepth 20000 in
set_option maxHeartbeats 4000000 in
theorem sJ_check0 (l : Launch) (d : Nat) (h : MH) (n k N : Nat) (hk : k < N) (hN : N < 1000) : Sp l mJ0_checkIndex_df160 (d + 1) [.int (nI k), .int (nI N)] h n 0 0 (Pu h n) := by
  show V _ _ _ _ [some (.int (nI k)), some (.int (nI N))] _ _ _ _ _ _
  have go : ∀ v : Value, v.category = 1 → V l mJ0_checkIndex_df160 (d + 1) 5 [some (.int (nI k)), some (.int (nI N))] [v, .int (nI N), .int (nI k)] h n 0 0 (Pu h n) := by
    intro v hv
    refine V.callSv (st := []) [.int (nI k), .int (nI N), v] dJ0_checkIndex_df160_5 lk_J0_1059 rfl ?_ (Nat.le_of_ble_eq_true rfl) (sJ_check3 l _ _ _ _ _ hk hN v hv) ?_
    · rw [show ls0 [.int (nI k), .int (nI N), v] = some (.int (nI k)) :: some (.int (nI N)) :: ls0 [v] from rfl, ls0, if_neg (by omega)]
      exact Nat.le_of_ble_eq_true rfl
    · refine V.pop dJ0_checkIndex_df160_8 rfl ?_
      exact V.vretP (by exact dJ0_checkIndex_df160_9) rfl rfl
  refine V.iload_n dJ0_checkIndex_df160_0 rfl ?_
  refine V.iload_n dJ0_checkIndex_df160_1 rfl ?_
  exact V.getsF dJ0_checkIndex_df160_2 fs_J0_1053 (go _ rfl) (go _ rfl)
set_option maxRecDepth 20000 in
set_option maxHeartbeats 4000000 in
theorem sJ_char1 (l : Launch) (d : Nat) (h : MH) (n j k : Nat) (hj : j < 6) (hk : k < lenS.getD j 0) (hl : lenS.getD j 0 < 1000) (v : Int32) (hv : ((sby j k &&& nI 255).toUInt32 % 65536).toInt32 = v) (hn : narrow .char (.int v) = .int v) : Sp l mJ1_charAt_3b067 (d + 2) [.ref (2000000 + j), .int (nI k)] h n 0 0 (Pv v h n) := by
  show V _ _ _ _ [some (.ref (2000000 + j)), some (.int (nI k))] _ _ _ _ _ _
  refine V.iload_n dJ1_charAt_3b067_0 rfl ?_
  refine V.aload_n dJ1_charAt_3b067_1 rfl ?_
  refine V.alenS dJ1_charAt_3b067_2 hj ?_
  refine V.callSu [_, _] dJ1_charAt_3b067_3 lk_J1_9 rfl (Nat.le_of_ble_eq_true rfl) (Nat.le_of_ble_eq_true rfl) (sJ_check0 l _ _ _ _ _ hk hl) ?_
  refine V.aload_n dJ1_charAt_3b067_6 rfl ?_
  refine V.iload_n dJ1_charAt_3b067_7 rfl ?_
  refine V.baldS dJ1_charAt_3b067_8 hj hk (by omega) ?_
  refine V.sipush (v := nI 255) dJ1_charAt_3b067_9 (by decide) ?_
  refine V.iand dJ1_charAt_3b067_12 ?_
  refine V.i2c dJ1_charAt_3b067_13 ?_
  rw [hv]
  exact V.iret (by exact dJ1_charAt_3b067_14) rfl hn ⟨rfl, rfl, rfl⟩
set_option maxRecDepth 20000 in
set_option maxHeartbeats 4000000 in
theorem sJ_charAt (l : Launch) (d : Nat) (h : MH) (n j k : Nat) (hj : j < 6) (hk : k < lenS.getD j 0) (hl : lenS.getD j 0 < 1000) (v : Int32) (hv : ((sby j k &&& nI 255).toUInt32 % 65536).toInt32 = v) (hn : narrow .char (.int v) = .int v) : Sp l mJ0_charAt_5068e (d + 3) [.ref (1000000 + j), .int (nI k)] h n 0 0 (Pv v h n) := by
  show V _ _ _ _ [some (.ref (1000000 + j)), some (.int (nI k))] _ _ _ _ _ _
  refine V.aload_n dJ0_charAt_5068e_0 rfl ?_
  refine V.callVSv [] dJ0_charAt_5068e_1 lk_J0_492 rfl (Nat.le_of_ble_eq_true rfl) (Nat.le_of_ble_eq_true rfl) hj rfl (sJ_isLatin1 l _ _ _ _ hj) ?_
  refine V.if_eqB (tgt := 16) dJ0_charAt_5068e_4 (by decide) (fun q => by cases q) (fun q => ?_)
  refine V.aload_n dJ0_charAt_5068e_7 rfl ?_
  refine V.getfS dJ0_charAt_5068e_8 hj fs_J0_9 ?_
  refine V.iload_n dJ0_charAt_5068e_11 rfl ?_
  refine V.callSv [_, _] dJ0_charAt_5068e_12 lk_J0_495 rfl (Nat.le_of_ble_eq_true rfl) (Nat.le_of_ble_eq_true rfl) (sJ_char1 l _ _ _ _ _ hj hk hl v hv hn) ?_
  exact V.iret (by exact dJ0_charAt_5068e_15) rfl hn ⟨rfl, rfl, rfl⟩
