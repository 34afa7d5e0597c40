/-- what a statement does: its letter, its numbers -/
def cmE (c : Nat) (nb : Nat → Nat) (K : KK) (m : Nat) : Option KK :=
  if c = 103 then (if (begB K = false ∧ nb 0 < 4) then eG0 (nb 0) (nb 1) (nb 2) K m else none)
  else if c = 114 then eRing (nI (nb 0)) K m
  else if c = 101 then eRule 1 (nI (nb 0)) (nI 0) (nI 1) K
  else if c = 116 then eRule 2 (nI (nb 0)) (nI 0) (nI 100) K
  else if c = 102 then eRule 3 (nI (nb 0)) (nI 0) (nI 1) K
  else if c = 108 then eRule 4 (nI (nb 0)) (nI 0) (nI 1) K
  else if c = 104 then eRule 5 (nI (nb 0)) (nI 10) (nI 600) K
  else if c = 112 then (if begB K = false then eP0 (nb 0) (nb 1) (nb 2) (nb 3) K m else none)
  else eN0 (nb 0) (nb 1) (nb 2) (nb 3) K
/-- the letters, and what their numbers are -/
def LtOk (c : Nat) (nb : Nat → Nat) : Prop := (c = 103 ∧ nb 0 < 10 ∧ nb 1 < 84 ∧ nb 2 < 84) ∨ ((c = 114 ∨ c = 101 ∨ c = 102 ∨ c = 108) ∧ nb 0 < 10) ∨ ((c = 116 ∨ c = 104) ∧ nb 0 < 1000) ∨ (c = 112 ∧ nb 0 < 10 ∧ nb 1 < 10 ∧ nb 2 < 10 ∧ nb 3 < 84) ∨ (c = 99 ∧ nb 0 < 10 ∧ nb 1 < 10 ∧ nb 2 < 10 ∧ nb 3 < 10)
theorem Mq.set {res : Option KK} {h : MH} {X : MC} {n : Nat} {r : Option Value} {h1 : MH} {n1 : Nat} (q : Mq res (hset h 82 X) n r h1 n1) : Mq res h n r h1 n1 := by
  obtain ⟨a, b, K1, e, c⟩ := q
  exact ⟨a, b, K1, by rw [e, hset_hset], c⟩
set_option maxRecDepth 20000 in
set_option maxHeartbeats 4000000 in
theorem s6_comes_pre (l : Launch) (d : Nat) (h : MH) (n : Nat) (b0 : Bool) (th po ba en tt : Int32) (hm0 : h 78 = some (.inr (6, moF b0 th po ba en tt))) (NB : Nat → Int32) (hnb : h 89 = some (ia 6 NB)) (nb : Nat → Nat) (hN : ∀ j, j < 4 → NB j = nI (nb j)) (K : KK) (c : Nat) {Q : Option Value → MH → Nat → Prop} (kk : V l mX6_comes (d + 6) 23 [some (.ref 78), some (.int (nI c)), some (.int (bI (begB K))), some (.int (nI (nb 0)))] [] (hset h 82 (kc K)) n 0 0 Q) : Sp l mX6_comes (d + 6) [.ref 78, .int (nI c)] (hset h 82 (kc K)) n 0 0 Q := by
  show V _ _ _ _ [some (.ref 78), some (.int (nI c)), none, none] _ _ _ _ _ _
  have key : ∀ v : Bool, begB K = v → V l mX6_comes (d + 6) 15 [some (.ref 78), some (.int (nI c)), none, none] [.int (bI v)] (hset h 82 (kc K)) n 0 0 Q := fun v hv => by
    subst hv
    refine V.ist2 dX6_comes_15 (by decide) rfl ?_
    refine V.aload_n dX6_comes_16 rfl ?_
    refine V.getf dX6_comes_17 fl_X6_40 (o_ne hm0 (by decide)) rfl ?_
    refine V.iconst (v := nI 0) dX6_comes_20 (by decide) ?_
    refine V.ialdN dX6_comes_21 (o_ne hnb (by decide)) (by omega) (by decide) ?_
    rw [hN 0 (by omega)]
    refine V.ist3 dX6_comes_22 (by decide) rfl ?_
    exact kk
  refine V.aload_n dX6_comes_0 rfl ?_
  refine V.getf dX6_comes_1 fl_X6_19 (o_ne hm0 (by decide)) rfl ?_
  refine V.bipush (v := nI 91) dX6_comes_4 (by decide) ?_
  refine V.ialdN dX6_comes_6 (hset_self _ _ _) (by omega) (by decide) ?_
  refine V.if_le (tgt := 14) dX6_comes_7 (by decide) (fun c7 => ?_) (fun c7 => ?_)
  · refine V.iconst (v := nI 0) dX6_comes_14 (by decide) ?_
    exact key false (decide_eq_false (Int32.not_lt.mpr c7))
  · refine V.iconst (v := nI 1) dX6_comes_10 (by decide) ?_
    refine V.goto (tgt := 15) dX6_comes_11 (by decide) ?_
    exact key true (decide_eq_true (Int32.not_le.mp c7))
set_option maxRecDepth 20000 in
set_option maxHeartbeats 4000000 in
theorem s6_comes_101 (l : Launch) (d : Nat) (h : MH) (n : Nat) (b0 : Bool) (th po ba en tt : Int32) (hm0 : h 78 = some (.inr (6, moF b0 th po ba en tt))) (NB : Nat → Int32) (hnb : h 89 = some (ia 6 NB)) (nb : Nat → Nat) (hN : ∀ j, j < 4 → NB j = nI (nb j)) (K : KK) (m : Nat) (hm : K 90 = nI m) (hm10 : m ≤ 10) (h0 : nb 0 < 1000) : Sp l mX6_comes (d + 6) [.ref 78, .int (nI 101)] (hset h 82 (kc K)) n 0 0 (Mq (eRule 1 (nI (nb 0)) (nI 0) (nI 1) K) h n) := by
  refine s6_comes_pre l d h n b0 th po ba en tt hm0 NB hnb nb hN K 101 ?_
  refine V.iload_n dX6_comes_23 rfl ?_
  refine V.tableIn (off := 132) (tgt := 156) dX6_comes_24 (by decide) (by decide) rfl (by decide) ?_
  refine V.aload_n dX6_comes_156 rfl ?_
  refine V.getf dX6_comes_157 fl_X6_19 (o_ne hm0 (by decide)) rfl ?_
  refine V.bipush (v := nI 85) dX6_comes_160 (by decide) ?_
  refine V.iload_n dX6_comes_162 rfl ?_
  refine V.iastN dX6_comes_163 (hset_self _ _ _) (by omega) (by decide) ?_
  rw [hset_hset]
  refine V.iload_n dX6_comes_164 rfl ?_
  refine V.iconst (v := nI 2) dX6_comes_165 (by decide) ?_
  refine V.icmp_geN (tgt := 173) dX6_comes_166 (by decide) (by omega) (by omega) (fun q => ?_) (fun q => ?_)
  · refine V.iconst (v := nI 0) dX6_comes_173 (by decide) ?_
    exact V.iret (by exact dX6_comes_174) rfl (bI_narrow false) (by rw [show eRule 1 (nI (nb 0)) (nI 0) (nI 1) K = none from (by rw [eRule, wi_N (by omega) (by omega) (by omega), decide_eq_false (show ¬ nb 0 ≤ 1 by omega)]; simp)]; exact ⟨rfl, rfl, (upd K 85 (nI (nb 0))), rfl, fun K2 y => by cases y⟩)
  · refine V.iconst (v := nI 1) dX6_comes_169 (by decide) ?_
    refine V.goto (tgt := 174) dX6_comes_170 (by decide) ?_
    exact V.iret (by exact dX6_comes_174) rfl (bI_narrow true) (by rw [show eRule 1 (nI (nb 0)) (nI 0) (nI 1) K = some (upd K 85 (nI (nb 0))) from (by rw [eRule, wi_N (by omega) (by omega) (by omega), decide_eq_true (show nb 0 ≤ 1 by omega), decide_eq_true (Nat.zero_le _)]; rfl)]; exact ⟨rfl, rfl, (upd K 85 (nI (nb 0))), rfl, fun K2 y => Option.some.inj y⟩)
set_option maxRecDepth 20000 in
set_option maxHeartbeats 4000000 in
theorem s6_comes_116 (l : Launch) (d : Nat) (h : MH) (n : Nat) (b0 : Bool) (th po ba en tt : Int32) (hm0 : h 78 = some (.inr (6, moF b0 th po ba en tt))) (NB : Nat → Int32) (hnb : h 89 = some (ia 6 NB)) (nb : Nat → Nat) (hN : ∀ j, j < 4 → NB j = nI (nb j)) (K : KK) (m : Nat) (hm : K 90 = nI m) (hm10 : m ≤ 10) (h0 : nb 0 < 1000) : Sp l mX6_comes (d + 6) [.ref 78, .int (nI 116)] (hset h 82 (kc K)) n 0 0 (Mq (eRule 2 (nI (nb 0)) (nI 0) (nI 100) K) h n) := by
  refine s6_comes_pre l d h n b0 th po ba en tt hm0 NB hnb nb hN K 116 ?_
  refine V.iload_n dX6_comes_23 rfl ?_
  refine V.tableIn (off := 151) (tgt := 175) dX6_comes_24 (by decide) (by decide) rfl (by decide) ?_
  refine V.aload_n dX6_comes_175 rfl ?_
  refine V.getf dX6_comes_176 fl_X6_19 (o_ne hm0 (by decide)) rfl ?_
  refine V.bipush (v := nI 86) dX6_comes_179 (by decide) ?_
  refine V.iload_n dX6_comes_181 rfl ?_
  refine V.iastN dX6_comes_182 (hset_self _ _ _) (by omega) (by decide) ?_
  rw [hset_hset]
  refine V.iload_n dX6_comes_183 rfl ?_
  refine V.bipush (v := nI 100) dX6_comes_184 (by decide) ?_
  refine V.icmp_gtN (tgt := 193) dX6_comes_186 (by decide) (by omega) (by omega) (fun q => ?_) (fun q => ?_)
  · refine V.iconst (v := nI 0) dX6_comes_193 (by decide) ?_
    exact V.iret (by exact dX6_comes_194) rfl (bI_narrow false) (by rw [show eRule 2 (nI (nb 0)) (nI 0) (nI 100) K = none from (by rw [eRule, wi_N (by omega) (by omega) (by omega), decide_eq_false (show ¬ nb 0 ≤ 100 by omega)]; simp)]; exact ⟨rfl, rfl, (upd K 86 (nI (nb 0))), rfl, fun K2 y => by cases y⟩)
  · refine V.iconst (v := nI 1) dX6_comes_189 (by decide) ?_
    refine V.goto (tgt := 194) dX6_comes_190 (by decide) ?_
    exact V.iret (by exact dX6_comes_194) rfl (bI_narrow true) (by rw [show eRule 2 (nI (nb 0)) (nI 0) (nI 100) K = some (upd K 86 (nI (nb 0))) from (by rw [eRule, wi_N (by omega) (by omega) (by omega), decide_eq_true (show nb 0 ≤ 100 by omega), decide_eq_true (Nat.zero_le _)]; rfl)]; exact ⟨rfl, rfl, (upd K 86 (nI (nb 0))), rfl, fun K2 y => Option.some.inj y⟩)
set_option maxRecDepth 20000 in
set_option maxHeartbeats 4000000 in
theorem s6_comes_102 (l : Launch) (d : Nat) (h : MH) (n : Nat) (b0 : Bool) (th po ba en tt : Int32) (hm0 : h 78 = some (.inr (6, moF b0 th po ba en tt))) (NB : Nat → Int32) (hnb : h 89 = some (ia 6 NB)) (nb : Nat → Nat) (hN : ∀ j, j < 4 → NB j = nI (nb j)) (K : KK) (m : Nat) (hm : K 90 = nI m) (hm10 : m ≤ 10) (h0 : nb 0 < 1000) : Sp l mX6_comes (d + 6) [.ref 78, .int (nI 102)] (hset h 82 (kc K)) n 0 0 (Mq (eRule 3 (nI (nb 0)) (nI 0) (nI 1) K) h n) := by
  refine s6_comes_pre l d h n b0 th po ba en tt hm0 NB hnb nb hN K 102 ?_
  refine V.iload_n dX6_comes_23 rfl ?_
  refine V.tableIn (off := 171) (tgt := 195) dX6_comes_24 (by decide) (by decide) rfl (by decide) ?_
  refine V.aload_n dX6_comes_195 rfl ?_
  refine V.getf dX6_comes_196 fl_X6_19 (o_ne hm0 (by decide)) rfl ?_
  refine V.bipush (v := nI 87) dX6_comes_199 (by decide) ?_
  refine V.iload_n dX6_comes_201 rfl ?_
  refine V.iastN dX6_comes_202 (hset_self _ _ _) (by omega) (by decide) ?_
  rw [hset_hset]
  refine V.iload_n dX6_comes_203 rfl ?_
  refine V.iconst (v := nI 2) dX6_comes_204 (by decide) ?_
  refine V.icmp_geN (tgt := 212) dX6_comes_205 (by decide) (by omega) (by omega) (fun q => ?_) (fun q => ?_)
  · refine V.iconst (v := nI 0) dX6_comes_212 (by decide) ?_
    exact V.iret (by exact dX6_comes_213) rfl (bI_narrow false) (by rw [show eRule 3 (nI (nb 0)) (nI 0) (nI 1) K = none from (by rw [eRule, wi_N (by omega) (by omega) (by omega), decide_eq_false (show ¬ nb 0 ≤ 1 by omega)]; simp)]; exact ⟨rfl, rfl, (upd K 87 (nI (nb 0))), rfl, fun K2 y => by cases y⟩)
  · refine V.iconst (v := nI 1) dX6_comes_208 (by decide) ?_
    refine V.goto (tgt := 213) dX6_comes_209 (by decide) ?_
    exact V.iret (by exact dX6_comes_213) rfl (bI_narrow true) (by rw [show eRule 3 (nI (nb 0)) (nI 0) (nI 1) K = some (upd K 87 (nI (nb 0))) from (by rw [eRule, wi_N (by omega) (by omega) (by omega), decide_eq_true (show nb 0 ≤ 1 by omega), decide_eq_true (Nat.zero_le _)]; rfl)]; exact ⟨rfl, rfl, (upd K 87 (nI (nb 0))), rfl, fun K2 y => Option.some.inj y⟩)
set_option maxRecDepth 20000 in
set_option maxHeartbeats 4000000 in
theorem s6_comes_108 (l : Launch) (d : Nat) (h : MH) (n : Nat) (b0 : Bool) (th po ba en tt : Int32) (hm0 : h 78 = some (.inr (6, moF b0 th po ba en tt))) (NB : Nat → Int32) (hnb : h 89 = some (ia 6 NB)) (nb : Nat → Nat) (hN : ∀ j, j < 4 → NB j = nI (nb j)) (K : KK) (m : Nat) (hm : K 90 = nI m) (hm10 : m ≤ 10) (h0 : nb 0 < 1000) : Sp l mX6_comes (d + 6) [.ref 78, .int (nI 108)] (hset h 82 (kc K)) n 0 0 (Mq (eRule 4 (nI (nb 0)) (nI 0) (nI 1) K) h n) := by
  refine s6_comes_pre l d h n b0 th po ba en tt hm0 NB hnb nb hN K 108 ?_
  refine V.iload_n dX6_comes_23 rfl ?_
  refine V.tableIn (off := 190) (tgt := 214) dX6_comes_24 (by decide) (by decide) rfl (by decide) ?_
  refine V.aload_n dX6_comes_214 rfl ?_
  refine V.getf dX6_comes_215 fl_X6_19 (o_ne hm0 (by decide)) rfl ?_
  refine V.bipush (v := nI 88) dX6_comes_218 (by decide) ?_
  refine V.iload_n dX6_comes_220 rfl ?_
  refine V.iastN dX6_comes_221 (hset_self _ _ _) (by omega) (by decide) ?_
  rw [hset_hset]
  refine V.iload_n dX6_comes_222 rfl ?_
  refine V.iconst (v := nI 2) dX6_comes_223 (by decide) ?_
  refine V.icmp_geN (tgt := 231) dX6_comes_224 (by decide) (by omega) (by omega) (fun q => ?_) (fun q => ?_)
  · refine V.iconst (v := nI 0) dX6_comes_231 (by decide) ?_
    exact V.iret (by exact dX6_comes_232) rfl (bI_narrow false) (by rw [show eRule 4 (nI (nb 0)) (nI 0) (nI 1) K = none from (by rw [eRule, wi_N (by omega) (by omega) (by omega), decide_eq_false (show ¬ nb 0 ≤ 1 by omega)]; simp)]; exact ⟨rfl, rfl, (upd K 88 (nI (nb 0))), rfl, fun K2 y => by cases y⟩)
  · refine V.iconst (v := nI 1) dX6_comes_227 (by decide) ?_
    refine V.goto (tgt := 232) dX6_comes_228 (by decide) ?_
    exact V.iret (by exact dX6_comes_232) rfl (bI_narrow true) (by rw [show eRule 4 (nI (nb 0)) (nI 0) (nI 1) K = some (upd K 88 (nI (nb 0))) from (by rw [eRule, wi_N (by omega) (by omega) (by omega), decide_eq_true (show nb 0 ≤ 1 by omega), decide_eq_true (Nat.zero_le _)]; rfl)]; exact ⟨rfl, rfl, (upd K 88 (nI (nb 0))), rfl, fun K2 y => Option.some.inj y⟩)
set_option maxRecDepth 20000 in
set_option maxHeartbeats 4000000 in
theorem s6_comes_104 (l : Launch) (d : Nat) (h : MH) (n : Nat) (b0 : Bool) (th po ba en tt : Int32) (hm0 : h 78 = some (.inr (6, moF b0 th po ba en tt))) (NB : Nat → Int32) (hnb : h 89 = some (ia 6 NB)) (nb : Nat → Nat) (hN : ∀ j, j < 4 → NB j = nI (nb j)) (K : KK) (m : Nat) (hm : K 90 = nI m) (hm10 : m ≤ 10) (h0 : nb 0 < 1000) : Sp l mX6_comes (d + 6) [.ref 78, .int (nI 104)] (hset h 82 (kc K)) n 0 0 (Mq (eRule 5 (nI (nb 0)) (nI 10) (nI 600) K) h n) := by
  refine s6_comes_pre l d h n b0 th po ba en tt hm0 NB hnb nb hN K 104 ?_
  refine V.iload_n dX6_comes_23 rfl ?_
  refine V.tableIn (off := 209) (tgt := 233) dX6_comes_24 (by decide) (by decide) rfl (by decide) ?_
  refine V.aload_n dX6_comes_233 rfl ?_
  refine V.getf dX6_comes_234 fl_X6_19 (o_ne hm0 (by decide)) rfl ?_
  refine V.bipush (v := nI 89) dX6_comes_237 (by decide) ?_
  refine V.iload_n dX6_comes_239 rfl ?_
  refine V.iastN dX6_comes_240 (hset_self _ _ _) (by omega) (by decide) ?_
  rw [hset_hset]
  refine V.iload_n dX6_comes_241 rfl ?_
  refine V.i2l dX6_comes_242 ?_
  refine V.ldc2 dX6_comes_243 cn_X6_147 ?_
  refine V.ldc2 dX6_comes_246 cn_X6_149 ?_
  refine V.callSv [_, _, _] dX6_comes_249 lk_X6_62 rfl (Nat.le_of_ble_eq_true rfl) (Nat.le_of_ble_eq_true rfl) (s6_isInC _ _ _ (nI 10) (nI 600) (by decide) (by decide) _ _) ?_
  refine V.iret (by exact dX6_comes_252) rfl (bI_narrow _) ?_
  rw [eRule]
  cases q : wi (nI (nb 0)) (nI 10) (nI 600) with
  | false => exact ⟨rfl, rfl, (upd K 89 (nI (nb 0))), rfl, fun K2 y => by cases y⟩
  | true => exact ⟨rfl, rfl, (upd K 89 (nI (nb 0))), rfl, fun K2 y => Option.some.inj y⟩
theorem V.callVM {l : Launch} {M : MT} {d pc : Nat} {ls : List (Option Value)} {st : List Value} {h : MH} {n c z : Nat} {Q : Option Value → MH → Nat → Prop} {N : MT} {idx k b ci : Nat} {fs : List Value} {X : MC} {res : Option KK} (As : List Value) (hd : decode M.2.1 pc = .ok (.invokevirtual idx, 3)) (hk : LkV M.1.cls idx N k) (hA : As.length = k) (hlen : (ls0 (.ref b :: As)).length ≤ N.2.2.1) (hst : (st.map fun v => v.category).sum ≤ 8) (hb0 : hset h 82 X b = some (.inr (ci, fs))) (hci : (classes[ci]?).map (fun q => q.1) = some N.1.cls) (sp : Sp l N d (.ref b :: As) (hset h 82 X) n 0 0 (Mq res h n)) (kk : ∀ K1 : KK, (∀ K2, res = some K2 → K1 = K2) → V l M (d + 1) (pc + 3) ls (.int (bI res.isSome) :: st) (hset h 82 (kc K1)) n c z Q) : V l M (d + 1) pc ls (As.reverse ++ .ref b :: st) (hset h 82 X) n c z Q := by
  exact V.callV (c := c) (z := z) As hd hk hA hlen hst hb0 hci sp (fun r h1 n1 q => by obtain ⟨rfl, rfl, K1, rfl, hK⟩ := q; exact kk K1 hK)
set_option maxRecDepth 20000 in
set_option maxHeartbeats 4000000 in
theorem s6_comes_103 (l : Launch) (d : Nat) (h : MH) (n : Nat) (b0 : Bool) (th po ba en tt : Int32) (hm0 : h 78 = some (.inr (6, moF b0 th po ba en tt))) (NB : Nat → Int32) (hnb : h 89 = some (ia 6 NB)) (nb : Nat → Nat) (hN : ∀ j, j < 4 → NB j = nI (nb j)) (K : KK) (m : Nat) (hm : K 90 = nI m) (hm10 : m ≤ 10) (hHL : HL K m) (hcl : ∀ p, p < m → cellv (gP K p 3)) (h0 : nb 0 < 10) (h1 : nb 1 < 84) (h2 : nb 2 < 84) : Sp l mX6_comes (d + 6) [.ref 78, .int (nI 103)] (hset h 82 (kc K)) n 0 0 (Mq (if (begB K = false ∧ nb 0 < 4) then eG0 (nb 0) (nb 1) (nb 2) K m else none) h n) := by
  refine s6_comes_pre l d h n b0 th po ba en tt hm0 NB hnb nb hN K 103 ?_
  refine V.iload_n dX6_comes_23 rfl ?_
  refine V.tableIn (off := 80) (tgt := 104) dX6_comes_24 (by decide) (by decide) rfl (by decide) ?_
  have no : ¬ (begB K = false ∧ nb 0 < 4) → V l mX6_comes (d + 6) 124 [some (.ref 78), some (.int (nI 103)), some (.int (bI (begB K))), some (.int (nI (nb 0)))] [] (hset h 82 (kc K)) n 0 0 (Mq (if (begB K = false ∧ nb 0 < 4) then eG0 (nb 0) (nb 1) (nb 2) K m else none) h n) := fun e => by
    rw [if_neg e]
    refine V.iconst (v := nI 0) dX6_comes_124 (by decide) ?_
    exact V.iret (by exact dX6_comes_125) rfl (bI_narrow false) ⟨rfl, rfl, K, rfl, fun K2 y => by cases y⟩
  refine V.iload_n dX6_comes_104 rfl ?_
  refine V.if_neB (tgt := 124) dX6_comes_105 (by decide) (fun q => no (fun y => by rw [q] at y; cases y.1)) (fun c105 => ?_)
  refine V.iload_n dX6_comes_108 rfl ?_
  refine V.iconst (v := nI 4) dX6_comes_109 (by decide) ?_
  refine V.icmp_geN (tgt := 124) dX6_comes_110 (by decide) (by omega) (by omega) (fun q => no (fun y => by omega)) (fun c110 => ?_)
  refine V.aload_n dX6_comes_113 rfl ?_
  have hlt : nb 0 < 4 := by omega
  rw [if_pos ⟨c105, hlt⟩]
  refine V.callVM [] dX6_comes_114 lk_X6_144 rfl (Nat.le_of_ble_eq_true rfl) (Nat.le_of_ble_eq_true rfl) (o_ne hm0 (by decide)) rfl (s6_comesGround _ _ h n b0 th po ba en tt hm0 NB hnb K m hm hm10 hHL hcl (nb 0) (nb 1) (nb 2) hlt h1 h2 (hN 0 (by omega)) (hN 1 (by omega)) (hN 2 (by omega))) (fun K1 hK1 => ?_)
  refine V.if_eqB (tgt := 124) dX6_comes_117 (by decide) (fun q => ?_) (fun q => ?_)
  · refine V.iconst (v := nI 0) dX6_comes_124 (by decide) ?_
    exact V.iret (by exact dX6_comes_125) rfl (bI_narrow false) ⟨by rw [q]; rfl, rfl, K1, rfl, hK1⟩
  · refine V.iconst (v := nI 1) dX6_comes_120 (by decide) ?_
    refine V.goto (tgt := 125) dX6_comes_121 (by decide) ?_
    exact V.iret (by exact dX6_comes_125) rfl (bI_narrow true) ⟨by rw [q]; rfl, rfl, K1, rfl, hK1⟩
set_option maxRecDepth 20000 in
set_option maxHeartbeats 4000000 in
theorem s6_comes_114 (l : Launch) (d : Nat) (h : MH) (n : Nat) (b0 : Bool) (th po ba en tt : Int32) (hm0 : h 78 = some (.inr (6, moF b0 th po ba en tt))) (NB : Nat → Int32) (hnb : h 89 = some (ia 6 NB)) (nb : Nat → Nat) (hN : ∀ j, j < 4 → NB j = nI (nb j)) (K : KK) (m : Nat) (hm : K 90 = nI m) (hm10 : m ≤ 10) (hcl : ∀ p, p < m → cellv (gP K p 3)) : Sp l mX6_comes (d + 6) [.ref 78, .int (nI 114)] (hset h 82 (kc K)) n 0 0 (Mq (eRing (nI (nb 0)) K m) h n) := by
  refine s6_comes_pre l d h n b0 th po ba en tt hm0 NB hnb nb hN K 114 ?_
  refine V.iload_n dX6_comes_23 rfl ?_
  refine V.tableIn (off := 102) (tgt := 126) dX6_comes_24 (by decide) (by decide) rfl (by decide) ?_
  refine V.aload_n dX6_comes_126 rfl ?_
  refine V.getf dX6_comes_127 fl_X6_19 (o_ne hm0 (by decide)) rfl ?_
  refine V.bipush (v := nI 84) dX6_comes_130 (by decide) ?_
  refine V.iload_n dX6_comes_132 rfl ?_
  refine V.iastN dX6_comes_133 (hset_self _ _ _) (by omega) (by decide) ?_
  rw [hset_hset]
  have no : (!begB K && (decide (nI (nb 0) < nI 4) && hmA (upd K 84 (nI (nb 0))) m)) = false → V l mX6_comes (d + 6) 154 [some (.ref 78), some (.int (nI 114)), some (.int (bI (begB K))), some (.int (nI (nb 0)))] [] (hset h 82 (kc (upd K 84 (nI (nb 0))))) n 0 0 (Mq (eRing (nI (nb 0)) K m) h n) := fun e => by
    rw [eRing, e]
    refine V.iconst (v := nI 0) dX6_comes_154 (by decide) ?_
    exact V.iret (by exact dX6_comes_155) rfl (bI_narrow false) ⟨rfl, rfl, (upd K 84 (nI (nb 0))), rfl, fun K2 y => by cases y⟩
  refine V.iload_n dX6_comes_134 rfl ?_
  refine V.if_neB (tgt := 154) dX6_comes_135 (by decide) (fun q => no (by rw [q]; rfl)) (fun c135 => ?_)
  refine V.iload_n dX6_comes_138 rfl ?_
  refine V.iconst (v := nI 4) dX6_comes_139 (by decide) ?_
  refine V.icmp_ge (tgt := 154) dX6_comes_140 (by decide) (fun q => no (by rw [decide_eq_false (Int32.not_lt.mpr q)]; simp)) (fun c140 => ?_)
  refine V.aload_n dX6_comes_143 rfl ?_
  have c140 := decide_eq_true (Int32.not_le.mp c140)
  refine V.callVv [] dX6_comes_144 lk_X6_141 rfl (Nat.le_of_ble_eq_true rfl) (Nat.le_of_ble_eq_true rfl) (o_ne hm0 (by decide)) rfl (s6_areHomes _ _ _ _ b0 th po ba en tt (o_ne hm0 (by decide)) (upd K 84 (nI (nb 0))) (hset_self _ _ _) m ((pk_un (by omega)).trans hm) hm10 (fun p hp => by rw [gP_lo _ _ _ _ _ (by omega)]; exact hcl p hp)) ?_
  refine V.if_eqB (tgt := 154) dX6_comes_147 (by decide) (fun q => no (by rw [q]; simp)) (fun q => ?_)
  refine V.iconst (v := nI 1) dX6_comes_150 (by decide) ?_
  refine V.goto (tgt := 155) dX6_comes_151 (by decide) ?_
  exact V.iret (by exact dX6_comes_155) rfl (bI_narrow true) (by rw [eRing, c135, c140, q]; exact ⟨rfl, rfl, (upd K 84 (nI (nb 0))), rfl, fun K2 y => Option.some.inj y⟩)
set_option maxRecDepth 20000 in
set_option maxHeartbeats 4000000 in
theorem s6_comes_112 (l : Launch) (d : Nat) (h : MH) (n : Nat) (b0 : Bool) (th po ba en tt : Int32) (hm0 : h 78 = some (.inr (6, moF b0 th po ba en tt))) (NB : Nat → Int32) (hnb : h 89 = some (ia 6 NB)) (nb : Nat → Nat) (hN : ∀ j, j < 4 → NB j = nI (nb j)) (K : KK) (m : Nat) (hm : K 90 = nI m) (hm10 : m ≤ 10) (h0 : nb 0 < 10) (h1 : nb 1 < 10) (h2 : nb 2 < 10) (h3 : nb 3 < 84) : Sp l mX6_comes (d + 6) [.ref 78, .int (nI 112)] (hset h 82 (kc K)) n 0 0 (Mq (if begB K = false then eP0 (nb 0) (nb 1) (nb 2) (nb 3) K m else none) h n) := by
  refine s6_comes_pre l d h n b0 th po ba en tt hm0 NB hnb nb hN K 112 ?_
  refine V.iload_n dX6_comes_23 rfl ?_
  refine V.tableIn (off := 229) (tgt := 253) dX6_comes_24 (by decide) (by decide) rfl (by decide) ?_
  refine V.iload_n dX6_comes_253 rfl ?_
  refine V.if_neB (tgt := 268) dX6_comes_254 (by decide) (fun q => ?_) (fun c254 => ?_)
  · rw [if_neg (fun y => by rw [q] at y; cases y)]
    refine V.iconst (v := nI 0) dX6_comes_268 (by decide) ?_
    exact V.iret (by exact dX6_comes_269) rfl (bI_narrow false) ⟨rfl, rfl, K, rfl, fun K2 y => by cases y⟩
  rw [if_pos c254]
  refine V.aload_n dX6_comes_257 rfl ?_
  refine V.callVM [] dX6_comes_258 lk_X6_151 rfl (Nat.le_of_ble_eq_true rfl) (Nat.le_of_ble_eq_true rfl) (o_ne hm0 (by decide)) rfl (s6_comesPlayer _ _ h n b0 th po ba en tt hm0 NB hnb K m hm hm10 (nb 0) (nb 1) (nb 2) (nb 3) h0 h1 h2 h3 (hN 0 (by omega)) (hN 1 (by omega)) (hN 2 (by omega)) (hN 3 (by omega))) (fun K1 hK1 => ?_)
  refine V.if_eqB (tgt := 268) dX6_comes_261 (by decide) (fun q => ?_) (fun q => ?_)
  · refine V.iconst (v := nI 0) dX6_comes_268 (by decide) ?_
    exact V.iret (by exact dX6_comes_269) rfl (bI_narrow false) ⟨by rw [q]; rfl, rfl, K1, rfl, hK1⟩
  · refine V.iconst (v := nI 1) dX6_comes_264 (by decide) ?_
    refine V.goto (tgt := 269) dX6_comes_265 (by decide) ?_
    exact V.iret (by exact dX6_comes_269) rfl (bI_narrow true) ⟨by rw [q]; rfl, rfl, K1, rfl, hK1⟩
set_option maxRecDepth 20000 in
set_option maxHeartbeats 4000000 in
theorem s6_comes_99 (l : Launch) (d : Nat) (h : MH) (n : Nat) (b0 : Bool) (th po ba en tt : Int32) (hm0 : h 78 = some (.inr (6, moF b0 th po ba en tt))) (NB : Nat → Int32) (hnb : h 89 = some (ia 6 NB)) (nb : Nat → Nat) (hN : ∀ j, j < 4 → NB j = nI (nb j)) (K : KK) (m : Nat) (hm : K 90 = nI m) (hm10 : m ≤ 10) (hp : ∀ s, s < 2 → ∃ q, q ≤ 2 ∧ K (100 + 7 * s) = nI q) (h0 : nb 0 < 10) (h1 : nb 1 < 10) (h2 : nb 2 < 10) (h3 : nb 3 < 10) : Sp l mX6_comes (d + 6) [.ref 78, .int (nI 99)] (hset h 82 (kc K)) n 0 0 (Mq (eN0 (nb 0) (nb 1) (nb 2) (nb 3) K) h n) := by
  refine s6_comes_pre l d h n b0 th po ba en tt hm0 NB hnb nb hN K 99 ?_
  refine V.iload_n dX6_comes_23 rfl ?_
  refine V.tableOut (tgt := 270) dX6_comes_24 (Or.inl (by decide)) (by decide) ?_
  refine V.aload_n dX6_comes_270 rfl ?_
  refine V.callVM [] dX6_comes_271 lk_X6_154 rfl (Nat.le_of_ble_eq_true rfl) (Nat.le_of_ble_eq_true rfl) (o_ne hm0 (by decide)) rfl (s6_comesPlan _ _ h n b0 th po ba en tt hm0 NB hnb K hp (nb 0) (nb 1) (nb 2) (nb 3) h0 h1 h2 h3 (hN 0 (by omega)) (hN 1 (by omega)) (hN 2 (by omega)) (hN 3 (by omega))) (fun K1 hK1 => ?_)
  exact V.iret (by exact dX6_comes_274) rfl (bI_narrow _) ⟨rfl, rfl, K1, rfl, hK1⟩
theorem s6_comes (l : Launch) (d : Nat) (h : MH) (n : Nat) (b0 : Bool) (th po ba en tt : Int32) (hm0 : h 78 = some (.inr (6, moF b0 th po ba en tt))) (NB : Nat → Int32) (hnb : h 89 = some (ia 6 NB)) (nb : Nat → Nat) (hN : ∀ j, j < 4 → NB j = nI (nb j)) (K : KK) (m : Nat) (hm : K 90 = nI m) (hm10 : m ≤ 10) (hHL : HL K m) (hcl : ∀ p, p < m → cellv (gP K p 3)) (hp : ∀ s, s < 2 → ∃ q, q ≤ 2 ∧ K (100 + 7 * s) = nI q) (c : Nat) (hL : LtOk c nb) : Sp l mX6_comes (d + 6) [.ref 78, .int (nI c)] (hset h 82 (kc K)) n 0 0 (Mq (cmE c nb K m) h n) := by
  rcases hL with ⟨rfl, h0, h1, h2⟩ | ⟨hc, h0⟩ | ⟨hc, h0⟩ | ⟨rfl, h0, h1, h2, h3⟩ | ⟨rfl, h0, h1, h2, h3⟩
  · exact s6_comes_103 l d h n b0 th po ba en tt hm0 NB hnb nb hN K m hm hm10 hHL hcl h0 h1 h2
  · rcases hc with rfl | rfl | rfl | rfl
    · exact s6_comes_114 l d h n b0 th po ba en tt hm0 NB hnb nb hN K m hm hm10 hcl
    · exact s6_comes_101 l d h n b0 th po ba en tt hm0 NB hnb nb hN K m hm hm10 (by omega)
    · exact s6_comes_102 l d h n b0 th po ba en tt hm0 NB hnb nb hN K m hm hm10 (by omega)
    · exact s6_comes_108 l d h n b0 th po ba en tt hm0 NB hnb nb hN K m hm hm10 (by omega)
  · rcases hc with rfl | rfl
    · exact s6_comes_116 l d h n b0 th po ba en tt hm0 NB hnb nb hN K m hm hm10 h0
    · exact s6_comes_104 l d h n b0 th po ba en tt hm0 NB hnb nb hN K m hm hm10 h0
  · exact s6_comes_112 l d h n b0 th po ba en tt hm0 NB hnb nb hN K m hm hm10 h0 h1 h2 h3
  · exact s6_comes_99 l d h n b0 th po ba en tt hm0 NB hnb nb hN K m hm hm10 hp h0 h1 h2 h3
