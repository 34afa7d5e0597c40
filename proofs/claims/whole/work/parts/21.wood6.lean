theorem V.quH {l : Launch} {M : MT} {d pc : Nat} {ls : List (Option Value)} {st : List Value} {h h2 h3 : MH} {n c z k : Nat} (e : h2 = h3) (q : V l M d pc ls st h n c z (Pu h2 k)) : V l M d pc ls st h n c z (Pu h3 k) := e ▸ q
theorem V.ialdC {l : Launch} {M : MT} {d pc : Nat} {ls : List (Option Value)} {st : List Value} {h : MH} {n c z : Nat} {Q : Option Value → MH → Nat → Prop} {a N : Nat} {f : Nat → Int32} {i : Int32} (hd : decode M.2.1 pc = .ok (.iaload, 1)) (ha : h a = some (.inl (0, N, .inl f))) (hi : cellv i) (hN : 84 ≤ N) (hN2 : N < 2 ^ 31) (kk : V l M d (pc + 1) ls (.int (f i.toNatClampNeg) :: st) h n c z Q) : V l M d pc ls (.int i :: .ref a :: st) h n c z Q := by
  obtain ⟨j, hj, rfl⟩ := hi
  exact V.iald hd ha (vp_in_nI (by omega) hN2) kk
/-- the next draw -/
def dz (K : KK) : KK := upd K 95 (K 95 * 1103515245 + nI 12345)
def dv (K : KK) : Int32 := (dz K 95 &&& 2147483647) / 65536 - (dz K 95 &&& 2147483647) / 65536 / nI 100 * nI 100
def endB (K : KK) : Bool := !decide (K 92 = nI 2) || !decide (K 91 < K 89)
set_option maxRecDepth 20000 in
set_option maxHeartbeats 4000000 in
theorem s6_draw (l : Launch) (d : Nat) (h : MH) (n a : Nat) (K : KK) (ha : h a = some (kc K)) : Sp l mX6_draw d [.ref a] h n 0 0 (Pv (dv K) (hset h a (kc (dz K))) n) := by
  show V _ _ _ _ [some (.ref a)] _ _ _ _ _ _
  refine V.aload_n dX6_draw_0 rfl ?_
  refine V.bipush (v := nI 95) dX6_draw_1 (by decide) ?_
  refine V.aload_n dX6_draw_3 rfl ?_
  refine V.bipush (v := nI 95) dX6_draw_4 (by decide) ?_
  refine V.ialdN dX6_draw_6 (by first | assumption | exact hset_self _ _ _) (by omega) (by decide) ?_
  refine V.ldc dX6_draw_7 cn_X6_226 ?_
  refine V.imul dX6_draw_9 ?_
  refine V.sipush (v := nI 12345) dX6_draw_10 (by decide) ?_
  refine V.iadd dX6_draw_13 ?_
  refine V.iastN dX6_draw_14 (by first | assumption | exact hset_self _ _ _) (by omega) (by decide) ?_
  refine V.aload_n dX6_draw_15 rfl ?_
  refine V.bipush (v := nI 95) dX6_draw_16 (by decide) ?_
  refine V.ialdN dX6_draw_18 (by first | assumption | exact hset_self _ _ _) (by omega) (by decide) ?_
  refine V.ldc dX6_draw_19 cn_X6_227 ?_
  refine V.iand dX6_draw_21 ?_
  refine V.ldc dX6_draw_22 cn_X6_228 ?_
  refine V.idiv dX6_draw_24 (by decide) ?_
  refine V.bipush (v := nI 100) dX6_draw_25 (by decide) ?_
  refine V.irem dX6_draw_27 (by decide) ?_
  exact V.iretP (by exact dX6_draw_28) rfl rfl rfl
set_option maxRecDepth 20000 in
set_option maxHeartbeats 4000000 in
theorem s6_isEnded (l : Launch) (d : Nat) (h : MH) (n a : Nat) (K : KK) (ha : h a = some (kc K)) : Sp l mX6_isEnded d [.ref a] h n 0 0 (Pv (bI (endB K)) h n) := by
  show V _ _ _ _ [some (.ref a)] _ _ _ _ _ _
  refine V.aload_n dX6_isEnded_0 rfl ?_
  refine V.bipush (v := nI 92) dX6_isEnded_1 (by decide) ?_
  refine V.ialdN dX6_isEnded_3 (by assumption) (by omega) (by decide) ?_
  refine V.iconst (v := nI 2) dX6_isEnded_4 (by decide) ?_
  refine V.icmp_ne (tgt := 19) dX6_isEnded_5 (by decide) (fun c5 => ?_) (fun c5 => ?_)
  · refine V.iconst (v := nI 1) dX6_isEnded_19 (by decide) ?_
    refine V.goto (tgt := 24) dX6_isEnded_20 (by decide) ?_
    exact V.iretZ (by exact dX6_isEnded_24) rfl (by (try simp only [← Int32.not_le, Classical.not_not] at *); simp only [endB, ← Int32.not_le, c5, not_true_eq_false, not_false_eq_true, if_true, if_false, decide_true, decide_false, Bool.and_true, Bool.and_false, Bool.true_and, Bool.false_and, Bool.or_true, Bool.or_false, Bool.true_or, Bool.false_or, Bool.not_true, Bool.not_false, and_true, and_false, true_and, false_and, or_true, or_false, true_or, false_or, bIt, bIf, Bool.false_eq_true, reduceCtorEq]) rfl
  · refine V.aload_n dX6_isEnded_8 rfl ?_
    refine V.bipush (v := nI 91) dX6_isEnded_9 (by decide) ?_
    refine V.ialdN dX6_isEnded_11 (by assumption) (by omega) (by decide) ?_
    refine V.aload_n dX6_isEnded_12 rfl ?_
    refine V.bipush (v := nI 89) dX6_isEnded_13 (by decide) ?_
    refine V.ialdN dX6_isEnded_15 (by assumption) (by omega) (by decide) ?_
    refine V.icmp_lt (tgt := 23) dX6_isEnded_16 (by decide) (fun c16 => ?_) (fun c16 => ?_)
    · refine V.iconst (v := nI 0) dX6_isEnded_23 (by decide) ?_
      exact V.iretZ (by exact dX6_isEnded_24) rfl (by (try simp only [← Int32.not_le, Classical.not_not] at *); simp only [endB, ← Int32.not_le, eq_true c5, c16, not_true_eq_false, not_false_eq_true, if_true, if_false, decide_true, decide_false, Bool.and_true, Bool.and_false, Bool.true_and, Bool.false_and, Bool.or_true, Bool.or_false, Bool.true_or, Bool.false_or, Bool.not_true, Bool.not_false, and_true, and_false, true_and, false_and, or_true, or_false, true_or, false_or, bIt, bIf, Bool.false_eq_true, reduceCtorEq]) rfl
    · refine V.iconst (v := nI 1) dX6_isEnded_19 (by decide) ?_
      refine V.goto (tgt := 24) dX6_isEnded_20 (by decide) ?_
      exact V.iretZ (by exact dX6_isEnded_24) rfl (by (try simp only [← Int32.not_le, Classical.not_not] at *); simp only [endB, ← Int32.not_le, eq_true c5, c16, not_true_eq_false, not_false_eq_true, if_true, if_false, decide_true, decide_false, Bool.and_true, Bool.and_false, Bool.true_and, Bool.false_and, Bool.or_true, Bool.or_false, Bool.true_or, Bool.false_or, Bool.not_true, Bool.not_false, and_true, and_false, true_and, false_and, or_true, or_false, true_or, false_or, bIt, bIf, Bool.false_eq_true, reduceCtorEq]) rfl
/-- the flags of one who is touched -/
def td (K : KK) (p e : Nat) : KK := if K (97 + 2 * e) = nI p then upd (upd K (96 + 2 * e + 1) (-4)) (96 + 2 * e) (if (upd K (96 + 2 * e + 1) (-4)) 87 = nI 1 then fpl (nI e) else gP (upd K (96 + 2 * e + 1) (-4)) p 4) else K
def tq (K : KK) (p : Nat) : KK := td (td (upd K 93 (K 93 + nI 1)) p 0) p (0 + 1)
def tr (K : KK) (p : Nat) : KK := upd (upd (upd K (114 + 7 * p + 5) (nI 1)) (114 + 7 * p + 4) (gl (nI 1 - gP (upd K (114 + 7 * p + 5) (nI 1)) p 0))) (114 + 7 * p + 6) (nI 0)
def tch (K : KK) (p : Nat) : KK := if dv K < dz K 86 then tr (tq (dz K) p) p else dz K
set_option maxRecDepth 20000 in
set_option maxHeartbeats 4000000 in
theorem s6_touches (l : Launch) (d : Nat) (h : MH) (n a : Nat) (K : KK) (ha : h a = some (kc K)) (p : Nat) (hp : p < 10) : Sp l mX6_touches (d + 1) [.ref a, .int (nI p)] h n 0 0 (Pu (hset h a (kc (tch K p))) n) := by
  show V _ _ _ _ [some (.ref a), some (.int (nI p)), none] _ _ _ _ _ _
  refine V.aload_n dX6_touches_0 rfl ?_
  refine V.callSv [_] dX6_touches_1 lk_X6_229 rfl (Nat.le_of_ble_eq_true rfl) (Nat.le_of_ble_eq_true rfl) (s6_draw _ _ _ _ _ _ (by first | assumption | exact hset_self _ _ _)) ?_
  refine V.aload_n dX6_touches_4 rfl ?_
  refine V.bipush (v := nI 86) dX6_touches_5 (by decide) ?_
  refine V.ialdN dX6_touches_7 (by first | assumption | exact hset_self _ _ _) (by omega) (by decide) ?_
  refine V.icmp_lt (tgt := 12) dX6_touches_8 (by decide) (fun c8 => ?_) (fun c8 => ?_)
  · refine V.aload_n dX6_touches_12 rfl ?_
    refine V.bipush (v := nI 93) dX6_touches_13 (by decide) ?_
    refine V.dup2 dX6_touches_15 rfl rfl ?_
    refine V.ialdN dX6_touches_16 (by first | assumption | exact hset_self _ _ _) (by omega) (by decide) ?_
    refine V.iconst (v := nI 1) dX6_touches_17 (by decide) ?_
    refine V.iadd dX6_touches_18 ?_
    refine V.iastN dX6_touches_19 (by first | assumption | exact hset_self _ _ _) (by omega) (by decide) ?_
    refine V.iconst (v := nI 0) dX6_touches_20 (by decide) ?_
    refine V.ist2 dX6_touches_21 (by decide) rfl ?_
    refine V.iload_n dX6_touches_22 rfl ?_
    refine V.iconst (v := nI 2) dX6_touches_23 (by decide) ?_
    refine V.icmp_ge (tgt := 86) dX6_touches_24 (by decide) (fun q => absurd q (by decide)) (fun _ => ?_)
    refine V.aload_n dX6_touches_27 rfl ?_
    refine V.iload_n dX6_touches_28 rfl ?_
    refine V.callSv [_, _] dX6_touches_29 lk_X6_188 rfl (Nat.le_of_ble_eq_true rfl) (Nat.le_of_ble_eq_true rfl) (s6_carrierOf _ _ _ _ _ _ (by first | assumption | exact hset_self _ _ _) _ (by omega)) ?_
    refine V.iload_n dX6_touches_32 rfl ?_
    refine V.icmp_eq (tgt := 39) dX6_touches_33 (by decide) (fun c33 => ?_) (fun c33 => ?_)
    · refine V.aload_n dX6_touches_39 rfl ?_
      refine V.bipush (v := nI 96) dX6_touches_40 (by decide) ?_
      refine V.iconst (v := nI 2) dX6_touches_42 (by decide) ?_
      refine V.iload_n dX6_touches_43 rfl ?_
      refine V.imulN dX6_touches_44 ?_
      refine V.iaddN dX6_touches_45 ?_
      refine V.iconst (v := nI 1) dX6_touches_46 (by decide) ?_
      refine V.iaddN dX6_touches_47 ?_
      refine V.bipush (v := -4) dX6_touches_48 (by decide) ?_
      refine V.iastN dX6_touches_50 (by first | assumption | exact hset_self _ _ _) (by omega) (by decide) ?_
      refine V.aload_n dX6_touches_51 rfl ?_
      refine V.bipush (v := nI 96) dX6_touches_52 (by decide) ?_
      refine V.iconst (v := nI 2) dX6_touches_54 (by decide) ?_
      refine V.iload_n dX6_touches_55 rfl ?_
      refine V.imulN dX6_touches_56 ?_
      refine V.iaddN dX6_touches_57 ?_
      refine V.aload_n dX6_touches_58 rfl ?_
      refine V.bipush (v := nI 87) dX6_touches_59 (by decide) ?_
      refine V.ialdN dX6_touches_61 (by first | assumption | exact hset_self _ _ _) (by omega) (by decide) ?_
      refine V.iconst (v := nI 1) dX6_touches_62 (by decide) ?_
      refine V.icmp_ne (tgt := 73) dX6_touches_63 (by decide) (fun c63 => ?_) (fun c63 => ?_)
      · refine V.aload_n dX6_touches_73 rfl ?_
        refine V.iload_n dX6_touches_74 rfl ?_
        refine V.iconst (v := nI 4) dX6_touches_75 (by decide) ?_
        refine V.callSv [_, _, _] dX6_touches_76 lk_X6_82 rfl (Nat.le_of_ble_eq_true rfl) (Nat.le_of_ble_eq_true rfl) (s6_get _ _ _ _ _ _ (by first | assumption | exact hset_self _ _ _) _ _ (by omega) (by omega)) ?_
        refine V.iastN dX6_touches_79 (by first | assumption | exact hset_self _ _ _) (by omega) (by decide) ?_
        refine V.inN2 dX6_touches_80 (by decide) rfl ?_
        refine V.goto (tgt := 22) dX6_touches_83 (by decide) ?_
        refine V.iload_n dX6_touches_22 rfl ?_
        refine V.iconst (v := nI 2) dX6_touches_23 (by decide) ?_
        refine V.icmp_ge (tgt := 86) dX6_touches_24 (by decide) (fun q => absurd q (by decide)) (fun _ => ?_)
        refine V.aload_n dX6_touches_27 rfl ?_
        refine V.iload_n dX6_touches_28 rfl ?_
        refine V.callSv [_, _] dX6_touches_29 lk_X6_188 rfl (Nat.le_of_ble_eq_true rfl) (Nat.le_of_ble_eq_true rfl) (s6_carrierOf _ _ _ _ _ _ (by first | assumption | exact hset_self _ _ _) _ (by omega)) ?_
        refine V.iload_n dX6_touches_32 rfl ?_
        refine V.icmp_eq (tgt := 39) dX6_touches_33 (by decide) (fun c33x => ?_) (fun c33x => ?_)
        · refine V.aload_n dX6_touches_39 rfl ?_
          refine V.bipush (v := nI 96) dX6_touches_40 (by decide) ?_
          refine V.iconst (v := nI 2) dX6_touches_42 (by decide) ?_
          refine V.iload_n dX6_touches_43 rfl ?_
          refine V.imulN dX6_touches_44 ?_
          refine V.iaddN dX6_touches_45 ?_
          refine V.iconst (v := nI 1) dX6_touches_46 (by decide) ?_
          refine V.iaddN dX6_touches_47 ?_
          refine V.bipush (v := -4) dX6_touches_48 (by decide) ?_
          refine V.iastN dX6_touches_50 (by first | assumption | exact hset_self _ _ _) (by omega) (by decide) ?_
          refine V.aload_n dX6_touches_51 rfl ?_
          refine V.bipush (v := nI 96) dX6_touches_52 (by decide) ?_
          refine V.iconst (v := nI 2) dX6_touches_54 (by decide) ?_
          refine V.iload_n dX6_touches_55 rfl ?_
          refine V.imulN dX6_touches_56 ?_
          refine V.iaddN dX6_touches_57 ?_
          refine V.aload_n dX6_touches_58 rfl ?_
          refine V.bipush (v := nI 87) dX6_touches_59 (by decide) ?_
          refine V.ialdN dX6_touches_61 (by first | assumption | exact hset_self _ _ _) (by omega) (by decide) ?_
          refine V.iconst (v := nI 1) dX6_touches_62 (by decide) ?_
          refine V.icmp_ne (tgt := 73) dX6_touches_63 (by decide) (fun c63x => ?_) (fun c63x => ?_)
          · refine V.aload_n dX6_touches_73 rfl ?_
            refine V.iload_n dX6_touches_74 rfl ?_
            refine V.iconst (v := nI 4) dX6_touches_75 (by decide) ?_
            refine V.callSv [_, _, _] dX6_touches_76 lk_X6_82 rfl (Nat.le_of_ble_eq_true rfl) (Nat.le_of_ble_eq_true rfl) (s6_get _ _ _ _ _ _ (by first | assumption | exact hset_self _ _ _) _ _ (by omega) (by omega)) ?_
            refine V.iastN dX6_touches_79 (by first | assumption | exact hset_self _ _ _) (by omega) (by decide) ?_
            refine V.inN2 dX6_touches_80 (by decide) rfl ?_
            refine V.goto (tgt := 22) dX6_touches_83 (by decide) ?_
            refine V.iload_n dX6_touches_22 rfl ?_
            refine V.iconst (v := nI 2) dX6_touches_23 (by decide) ?_
            refine V.icmp_ge (tgt := 86) dX6_touches_24 (by decide) (fun _ => ?_) (fun q => absurd q (by decide))
            refine V.aload_n dX6_touches_86 rfl ?_
            refine V.iload_n dX6_touches_87 rfl ?_
            refine V.iconst (v := nI 5) dX6_touches_88 (by decide) ?_
            refine V.iconst (v := nI 1) dX6_touches_89 (by decide) ?_
            refine V.callSu [_, _, _, _] dX6_touches_90 lk_X6_86 rfl (Nat.le_of_ble_eq_true rfl) (Nat.le_of_ble_eq_true rfl) (s6_puts _ _ _ _ _ _ (by first | assumption | exact hset_self _ _ _) _ _ _ (by omega) (by omega)) ?_
            refine V.aload_n dX6_touches_93 rfl ?_
            refine V.iload_n dX6_touches_94 rfl ?_
            refine V.iconst (v := nI 4) dX6_touches_95 (by decide) ?_
            refine V.iconst (v := nI 1) dX6_touches_96 (by decide) ?_
            refine V.aload_n dX6_touches_97 rfl ?_
            refine V.iload_n dX6_touches_98 rfl ?_
            refine V.iconst (v := nI 0) dX6_touches_99 (by decide) ?_
            refine V.callSv [_, _, _] dX6_touches_100 lk_X6_82 rfl (Nat.le_of_ble_eq_true rfl) (Nat.le_of_ble_eq_true rfl) (s6_get _ _ _ _ _ _ (by first | assumption | exact hset_self _ _ _) _ _ (by omega) (by omega)) ?_
            refine V.isub dX6_touches_103 ?_
            refine V.callSv [_] dX6_touches_104 lk_X6_75 rfl (Nat.le_of_ble_eq_true rfl) (Nat.le_of_ble_eq_true rfl) (s6_gaolOf _ _ _ _ _) ?_
            refine V.callSu [_, _, _, _] dX6_touches_107 lk_X6_86 rfl (Nat.le_of_ble_eq_true rfl) (Nat.le_of_ble_eq_true rfl) (s6_puts _ _ _ _ _ _ (by first | assumption | exact hset_self _ _ _) _ _ _ (by omega) (by omega)) ?_
            refine V.aload_n dX6_touches_110 rfl ?_
            refine V.iload_n dX6_touches_111 rfl ?_
            refine V.bipush (v := nI 6) dX6_touches_112 (by decide) ?_
            refine V.iconst (v := nI 0) dX6_touches_114 (by decide) ?_
            refine V.callSu [_, _, _, _] dX6_touches_115 lk_X6_86 rfl (Nat.le_of_ble_eq_true rfl) (Nat.le_of_ble_eq_true rfl) (s6_puts _ _ _ _ _ _ (by first | assumption | exact hset_self _ _ _) _ _ _ (by omega) (by omega)) ?_
            exact V.vretP (by exact dX6_touches_118) rfl (by (try simp only [← Int32.not_le, Classical.not_not] at *); simp only [hset_hset, tch, tr, tq, td, ← Int32.not_le, c8, eq_true c33, c63, eq_true c33x, c63x, not_true_eq_false, not_false_eq_true, if_true, if_false, decide_true, decide_false, Bool.and_true, Bool.and_false, Bool.true_and, Bool.false_and, Bool.or_true, Bool.or_false, Bool.true_or, Bool.false_or, Bool.not_true, Bool.not_false, and_true, and_false, true_and, false_and, or_true, or_false, true_or, false_or, bIt, bIf, Bool.false_eq_true, reduceCtorEq])
          · refine V.iload_n dX6_touches_66 rfl ?_
            refine V.callSv [_] dX6_touches_67 lk_X6_72 rfl (Nat.le_of_ble_eq_true rfl) (Nat.le_of_ble_eq_true rfl) (s6_flagPlace _ _ _ _ _) ?_
            refine V.goto (tgt := 79) dX6_touches_70 (by decide) ?_
            refine V.iastN dX6_touches_79 (by first | assumption | exact hset_self _ _ _) (by omega) (by decide) ?_
            refine V.inN2 dX6_touches_80 (by decide) rfl ?_
            refine V.goto (tgt := 22) dX6_touches_83 (by decide) ?_
            refine V.iload_n dX6_touches_22 rfl ?_
            refine V.iconst (v := nI 2) dX6_touches_23 (by decide) ?_
            refine V.icmp_ge (tgt := 86) dX6_touches_24 (by decide) (fun _ => ?_) (fun q => absurd q (by decide))
            refine V.aload_n dX6_touches_86 rfl ?_
            refine V.iload_n dX6_touches_87 rfl ?_
            refine V.iconst (v := nI 5) dX6_touches_88 (by decide) ?_
            refine V.iconst (v := nI 1) dX6_touches_89 (by decide) ?_
            refine V.callSu [_, _, _, _] dX6_touches_90 lk_X6_86 rfl (Nat.le_of_ble_eq_true rfl) (Nat.le_of_ble_eq_true rfl) (s6_puts _ _ _ _ _ _ (by first | assumption | exact hset_self _ _ _) _ _ _ (by omega) (by omega)) ?_
            refine V.aload_n dX6_touches_93 rfl ?_
            refine V.iload_n dX6_touches_94 rfl ?_
            refine V.iconst (v := nI 4) dX6_touches_95 (by decide) ?_
            refine V.iconst (v := nI 1) dX6_touches_96 (by decide) ?_
            refine V.aload_n dX6_touches_97 rfl ?_
            refine V.iload_n dX6_touches_98 rfl ?_
            refine V.iconst (v := nI 0) dX6_touches_99 (by decide) ?_
            refine V.callSv [_, _, _] dX6_touches_100 lk_X6_82 rfl (Nat.le_of_ble_eq_true rfl) (Nat.le_of_ble_eq_true rfl) (s6_get _ _ _ _ _ _ (by first | assumption | exact hset_self _ _ _) _ _ (by omega) (by omega)) ?_
            refine V.isub dX6_touches_103 ?_
            refine V.callSv [_] dX6_touches_104 lk_X6_75 rfl (Nat.le_of_ble_eq_true rfl) (Nat.le_of_ble_eq_true rfl) (s6_gaolOf _ _ _ _ _) ?_
            refine V.callSu [_, _, _, _] dX6_touches_107 lk_X6_86 rfl (Nat.le_of_ble_eq_true rfl) (Nat.le_of_ble_eq_true rfl) (s6_puts _ _ _ _ _ _ (by first | assumption | exact hset_self _ _ _) _ _ _ (by omega) (by omega)) ?_
            refine V.aload_n dX6_touches_110 rfl ?_
            refine V.iload_n dX6_touches_111 rfl ?_
            refine V.bipush (v := nI 6) dX6_touches_112 (by decide) ?_
            refine V.iconst (v := nI 0) dX6_touches_114 (by decide) ?_
            refine V.callSu [_, _, _, _] dX6_touches_115 lk_X6_86 rfl (Nat.le_of_ble_eq_true rfl) (Nat.le_of_ble_eq_true rfl) (s6_puts _ _ _ _ _ _ (by first | assumption | exact hset_self _ _ _) _ _ _ (by omega) (by omega)) ?_
            exact V.vretP (by exact dX6_touches_118) rfl (by (try simp only [← Int32.not_le, Classical.not_not] at *); simp only [hset_hset, tch, tr, tq, td, ← Int32.not_le, c8, eq_true c33, c63, eq_true c33x, eq_true c63x, not_true_eq_false, not_false_eq_true, if_true, if_false, decide_true, decide_false, Bool.and_true, Bool.and_false, Bool.true_and, Bool.false_and, Bool.or_true, Bool.or_false, Bool.true_or, Bool.false_or, Bool.not_true, Bool.not_false, and_true, and_false, true_and, false_and, or_true, or_false, true_or, false_or, bIt, bIf, Bool.false_eq_true, reduceCtorEq])
        · refine V.goto (tgt := 80) dX6_touches_36 (by decide) ?_
          refine V.inN2 dX6_touches_80 (by decide) rfl ?_
          refine V.goto (tgt := 22) dX6_touches_83 (by decide) ?_
          refine V.iload_n dX6_touches_22 rfl ?_
          refine V.iconst (v := nI 2) dX6_touches_23 (by decide) ?_
          refine V.icmp_ge (tgt := 86) dX6_touches_24 (by decide) (fun _ => ?_) (fun q => absurd q (by decide))
          refine V.aload_n dX6_touches_86 rfl ?_
          refine V.iload_n dX6_touches_87 rfl ?_
          refine V.iconst (v := nI 5) dX6_touches_88 (by decide) ?_
          refine V.iconst (v := nI 1) dX6_touches_89 (by decide) ?_
          refine V.callSu [_, _, _, _] dX6_touches_90 lk_X6_86 rfl (Nat.le_of_ble_eq_true rfl) (Nat.le_of_ble_eq_true rfl) (s6_puts _ _ _ _ _ _ (by first | assumption | exact hset_self _ _ _) _ _ _ (by omega) (by omega)) ?_
          refine V.aload_n dX6_touches_93 rfl ?_
          refine V.iload_n dX6_touches_94 rfl ?_
          refine V.iconst (v := nI 4) dX6_touches_95 (by decide) ?_
          refine V.iconst (v := nI 1) dX6_touches_96 (by decide) ?_
          refine V.aload_n dX6_touches_97 rfl ?_
          refine V.iload_n dX6_touches_98 rfl ?_
          refine V.iconst (v := nI 0) dX6_touches_99 (by decide) ?_
          refine V.callSv [_, _, _] dX6_touches_100 lk_X6_82 rfl (Nat.le_of_ble_eq_true rfl) (Nat.le_of_ble_eq_true rfl) (s6_get _ _ _ _ _ _ (by first | assumption | exact hset_self _ _ _) _ _ (by omega) (by omega)) ?_
          refine V.isub dX6_touches_103 ?_
          refine V.callSv [_] dX6_touches_104 lk_X6_75 rfl (Nat.le_of_ble_eq_true rfl) (Nat.le_of_ble_eq_true rfl) (s6_gaolOf _ _ _ _ _) ?_
          refine V.callSu [_, _, _, _] dX6_touches_107 lk_X6_86 rfl (Nat.le_of_ble_eq_true rfl) (Nat.le_of_ble_eq_true rfl) (s6_puts _ _ _ _ _ _ (by first | assumption | exact hset_self _ _ _) _ _ _ (by omega) (by omega)) ?_
          refine V.aload_n dX6_touches_110 rfl ?_
          refine V.iload_n dX6_touches_111 rfl ?_
          refine V.bipush (v := nI 6) dX6_touches_112 (by decide) ?_
          refine V.iconst (v := nI 0) dX6_touches_114 (by decide) ?_
          refine V.callSu [_, _, _, _] dX6_touches_115 lk_X6_86 rfl (Nat.le_of_ble_eq_true rfl) (Nat.le_of_ble_eq_true rfl) (s6_puts _ _ _ _ _ _ (by first | assumption | exact hset_self _ _ _) _ _ _ (by omega) (by omega)) ?_
          exact V.vretP (by exact dX6_touches_118) rfl (by (try simp only [← Int32.not_le, Classical.not_not] at *); simp only [hset_hset, tch, tr, tq, td, ← Int32.not_le, c8, eq_true c33, c63, c33x, not_true_eq_false, not_false_eq_true, if_true, if_false, decide_true, decide_false, Bool.and_true, Bool.and_false, Bool.true_and, Bool.false_and, Bool.or_true, Bool.or_false, Bool.true_or, Bool.false_or, Bool.not_true, Bool.not_false, and_true, and_false, true_and, false_and, or_true, or_false, true_or, false_or, bIt, bIf, Bool.false_eq_true, reduceCtorEq])
      · refine V.iload_n dX6_touches_66 rfl ?_
        refine V.callSv [_] dX6_touches_67 lk_X6_72 rfl (Nat.le_of_ble_eq_true rfl) (Nat.le_of_ble_eq_true rfl) (s6_flagPlace _ _ _ _ _) ?_
        refine V.goto (tgt := 79) dX6_touches_70 (by decide) ?_
        refine V.iastN dX6_touches_79 (by first | assumption | exact hset_self _ _ _) (by omega) (by decide) ?_
        refine V.inN2 dX6_touches_80 (by decide) rfl ?_
        refine V.goto (tgt := 22) dX6_touches_83 (by decide) ?_
        refine V.iload_n dX6_touches_22 rfl ?_
        refine V.iconst (v := nI 2) dX6_touches_23 (by decide) ?_
        refine V.icmp_ge (tgt := 86) dX6_touches_24 (by decide) (fun q => absurd q (by decide)) (fun _ => ?_)
        refine V.aload_n dX6_touches_27 rfl ?_
        refine V.iload_n dX6_touches_28 rfl ?_
        refine V.callSv [_, _] dX6_touches_29 lk_X6_188 rfl (Nat.le_of_ble_eq_true rfl) (Nat.le_of_ble_eq_true rfl) (s6_carrierOf _ _ _ _ _ _ (by first | assumption | exact hset_self _ _ _) _ (by omega)) ?_
        refine V.iload_n dX6_touches_32 rfl ?_
        refine V.icmp_eq (tgt := 39) dX6_touches_33 (by decide) (fun c33x => ?_) (fun c33x => ?_)
        · refine V.aload_n dX6_touches_39 rfl ?_
          refine V.bipush (v := nI 96) dX6_touches_40 (by decide) ?_
          refine V.iconst (v := nI 2) dX6_touches_42 (by decide) ?_
          refine V.iload_n dX6_touches_43 rfl ?_
          refine V.imulN dX6_touches_44 ?_
          refine V.iaddN dX6_touches_45 ?_
          refine V.iconst (v := nI 1) dX6_touches_46 (by decide) ?_
          refine V.iaddN dX6_touches_47 ?_
          refine V.bipush (v := -4) dX6_touches_48 (by decide) ?_
          refine V.iastN dX6_touches_50 (by first | assumption | exact hset_self _ _ _) (by omega) (by decide) ?_
          refine V.aload_n dX6_touches_51 rfl ?_
          refine V.bipush (v := nI 96) dX6_touches_52 (by decide) ?_
          refine V.iconst (v := nI 2) dX6_touches_54 (by decide) ?_
          refine V.iload_n dX6_touches_55 rfl ?_
          refine V.imulN dX6_touches_56 ?_
          refine V.iaddN dX6_touches_57 ?_
          refine V.aload_n dX6_touches_58 rfl ?_
          refine V.bipush (v := nI 87) dX6_touches_59 (by decide) ?_
          refine V.ialdN dX6_touches_61 (by first | assumption | exact hset_self _ _ _) (by omega) (by decide) ?_
          refine V.iconst (v := nI 1) dX6_touches_62 (by decide) ?_
          refine V.icmp_ne (tgt := 73) dX6_touches_63 (by decide) (fun c63x => ?_) (fun c63x => ?_)
          · refine V.aload_n dX6_touches_73 rfl ?_
            refine V.iload_n dX6_touches_74 rfl ?_
            refine V.iconst (v := nI 4) dX6_touches_75 (by decide) ?_
            refine V.callSv [_, _, _] dX6_touches_76 lk_X6_82 rfl (Nat.le_of_ble_eq_true rfl) (Nat.le_of_ble_eq_true rfl) (s6_get _ _ _ _ _ _ (by first | assumption | exact hset_self _ _ _) _ _ (by omega) (by omega)) ?_
            refine V.iastN dX6_touches_79 (by first | assumption | exact hset_self _ _ _) (by omega) (by decide) ?_
            refine V.inN2 dX6_touches_80 (by decide) rfl ?_
            refine V.goto (tgt := 22) dX6_touches_83 (by decide) ?_
            refine V.iload_n dX6_touches_22 rfl ?_
            refine V.iconst (v := nI 2) dX6_touches_23 (by decide) ?_
            refine V.icmp_ge (tgt := 86) dX6_touches_24 (by decide) (fun _ => ?_) (fun q => absurd q (by decide))
            refine V.aload_n dX6_touches_86 rfl ?_
            refine V.iload_n dX6_touches_87 rfl ?_
            refine V.iconst (v := nI 5) dX6_touches_88 (by decide) ?_
            refine V.iconst (v := nI 1) dX6_touches_89 (by decide) ?_
            refine V.callSu [_, _, _, _] dX6_touches_90 lk_X6_86 rfl (Nat.le_of_ble_eq_true rfl) (Nat.le_of_ble_eq_true rfl) (s6_puts _ _ _ _ _ _ (by first | assumption | exact hset_self _ _ _) _ _ _ (by omega) (by omega)) ?_
            refine V.aload_n dX6_touches_93 rfl ?_
            refine V.iload_n dX6_touches_94 rfl ?_
            refine V.iconst (v := nI 4) dX6_touches_95 (by decide) ?_
            refine V.iconst (v := nI 1) dX6_touches_96 (by decide) ?_
            refine V.aload_n dX6_touches_97 rfl ?_
            refine V.iload_n dX6_touches_98 rfl ?_
            refine V.iconst (v := nI 0) dX6_touches_99 (by decide) ?_
            refine V.callSv [_, _, _] dX6_touches_100 lk_X6_82 rfl (Nat.le_of_ble_eq_true rfl) (Nat.le_of_ble_eq_true rfl) (s6_get _ _ _ _ _ _ (by first | assumption | exact hset_self _ _ _) _ _ (by omega) (by omega)) ?_
            refine V.isub dX6_touches_103 ?_
            refine V.callSv [_] dX6_touches_104 lk_X6_75 rfl (Nat.le_of_ble_eq_true rfl) (Nat.le_of_ble_eq_true rfl) (s6_gaolOf _ _ _ _ _) ?_
            refine V.callSu [_, _, _, _] dX6_touches_107 lk_X6_86 rfl (Nat.le_of_ble_eq_true rfl) (Nat.le_of_ble_eq_true rfl) (s6_puts _ _ _ _ _ _ (by first | assumption | exact hset_self _ _ _) _ _ _ (by omega) (by omega)) ?_
            refine V.aload_n dX6_touches_110 rfl ?_
            refine V.iload_n dX6_touches_111 rfl ?_
            refine V.bipush (v := nI 6) dX6_touches_112 (by decide) ?_
            refine V.iconst (v := nI 0) dX6_touches_114 (by decide) ?_
            refine V.callSu [_, _, _, _] dX6_touches_115 lk_X6_86 rfl (Nat.le_of_ble_eq_true rfl) (Nat.le_of_ble_eq_true rfl) (s6_puts _ _ _ _ _ _ (by first | assumption | exact hset_self _ _ _) _ _ _ (by omega) (by omega)) ?_
            exact V.vretP (by exact dX6_touches_118) rfl (by (try simp only [← Int32.not_le, Classical.not_not] at *); simp only [hset_hset, tch, tr, tq, td, ← Int32.not_le, c8, eq_true c33, eq_true c63, eq_true c33x, c63x, not_true_eq_false, not_false_eq_true, if_true, if_false, decide_true, decide_false, Bool.and_true, Bool.and_false, Bool.true_and, Bool.false_and, Bool.or_true, Bool.or_false, Bool.true_or, Bool.false_or, Bool.not_true, Bool.not_false, and_true, and_false, true_and, false_and, or_true, or_false, true_or, false_or, bIt, bIf, Bool.false_eq_true, reduceCtorEq])
          · refine V.iload_n dX6_touches_66 rfl ?_
            refine V.callSv [_] dX6_touches_67 lk_X6_72 rfl (Nat.le_of_ble_eq_true rfl) (Nat.le_of_ble_eq_true rfl) (s6_flagPlace _ _ _ _ _) ?_
            refine V.goto (tgt := 79) dX6_touches_70 (by decide) ?_
            refine V.iastN dX6_touches_79 (by first | assumption | exact hset_self _ _ _) (by omega) (by decide) ?_
            refine V.inN2 dX6_touches_80 (by decide) rfl ?_
            refine V.goto (tgt := 22) dX6_touches_83 (by decide) ?_
            refine V.iload_n dX6_touches_22 rfl ?_
            refine V.iconst (v := nI 2) dX6_touches_23 (by decide) ?_
            refine V.icmp_ge (tgt := 86) dX6_touches_24 (by decide) (fun _ => ?_) (fun q => absurd q (by decide))
            refine V.aload_n dX6_touches_86 rfl ?_
            refine V.iload_n dX6_touches_87 rfl ?_
            refine V.iconst (v := nI 5) dX6_touches_88 (by decide) ?_
            refine V.iconst (v := nI 1) dX6_touches_89 (by decide) ?_
            refine V.callSu [_, _, _, _] dX6_touches_90 lk_X6_86 rfl (Nat.le_of_ble_eq_true rfl) (Nat.le_of_ble_eq_true rfl) (s6_puts _ _ _ _ _ _ (by first | assumption | exact hset_self _ _ _) _ _ _ (by omega) (by omega)) ?_
            refine V.aload_n dX6_touches_93 rfl ?_
            refine V.iload_n dX6_touches_94 rfl ?_
            refine V.iconst (v := nI 4) dX6_touches_95 (by decide) ?_
            refine V.iconst (v := nI 1) dX6_touches_96 (by decide) ?_
            refine V.aload_n dX6_touches_97 rfl ?_
            refine V.iload_n dX6_touches_98 rfl ?_
            refine V.iconst (v := nI 0) dX6_touches_99 (by decide) ?_
            refine V.callSv [_, _, _] dX6_touches_100 lk_X6_82 rfl (Nat.le_of_ble_eq_true rfl) (Nat.le_of_ble_eq_true rfl) (s6_get _ _ _ _ _ _ (by first | assumption | exact hset_self _ _ _) _ _ (by omega) (by omega)) ?_
            refine V.isub dX6_touches_103 ?_
            refine V.callSv [_] dX6_touches_104 lk_X6_75 rfl (Nat.le_of_ble_eq_true rfl) (Nat.le_of_ble_eq_true rfl) (s6_gaolOf _ _ _ _ _) ?_
            refine V.callSu [_, _, _, _] dX6_touches_107 lk_X6_86 rfl (Nat.le_of_ble_eq_true rfl) (Nat.le_of_ble_eq_true rfl) (s6_puts _ _ _ _ _ _ (by first | assumption | exact hset_self _ _ _) _ _ _ (by omega) (by omega)) ?_
            refine V.aload_n dX6_touches_110 rfl ?_
            refine V.iload_n dX6_touches_111 rfl ?_
            refine V.bipush (v := nI 6) dX6_touches_112 (by decide) ?_
            refine V.iconst (v := nI 0) dX6_touches_114 (by decide) ?_
            refine V.callSu [_, _, _, _] dX6_touches_115 lk_X6_86 rfl (Nat.le_of_ble_eq_true rfl) (Nat.le_of_ble_eq_true rfl) (s6_puts _ _ _ _ _ _ (by first | assumption | exact hset_self _ _ _) _ _ _ (by omega) (by omega)) ?_
            exact V.vretP (by exact dX6_touches_118) rfl (by (try simp only [← Int32.not_le, Classical.not_not] at *); simp only [hset_hset, tch, tr, tq, td, ← Int32.not_le, c8, eq_true c33, eq_true c63, eq_true c33x, eq_true c63x, not_true_eq_false, not_false_eq_true, if_true, if_false, decide_true, decide_false, Bool.and_true, Bool.and_false, Bool.true_and, Bool.false_and, Bool.or_true, Bool.or_false, Bool.true_or, Bool.false_or, Bool.not_true, Bool.not_false, and_true, and_false, true_and, false_and, or_true, or_false, true_or, false_or, bIt, bIf, Bool.false_eq_true, reduceCtorEq])
        · refine V.goto (tgt := 80) dX6_touches_36 (by decide) ?_
          refine V.inN2 dX6_touches_80 (by decide) rfl ?_
          refine V.goto (tgt := 22) dX6_touches_83 (by decide) ?_
          refine V.iload_n dX6_touches_22 rfl ?_
          refine V.iconst (v := nI 2) dX6_touches_23 (by decide) ?_
          refine V.icmp_ge (tgt := 86) dX6_touches_24 (by decide) (fun _ => ?_) (fun q => absurd q (by decide))
          refine V.aload_n dX6_touches_86 rfl ?_
          refine V.iload_n dX6_touches_87 rfl ?_
          refine V.iconst (v := nI 5) dX6_touches_88 (by decide) ?_
          refine V.iconst (v := nI 1) dX6_touches_89 (by decide) ?_
          refine V.callSu [_, _, _, _] dX6_touches_90 lk_X6_86 rfl (Nat.le_of_ble_eq_true rfl) (Nat.le_of_ble_eq_true rfl) (s6_puts _ _ _ _ _ _ (by first | assumption | exact hset_self _ _ _) _ _ _ (by omega) (by omega)) ?_
          refine V.aload_n dX6_touches_93 rfl ?_
          refine V.iload_n dX6_touches_94 rfl ?_
          refine V.iconst (v := nI 4) dX6_touches_95 (by decide) ?_
          refine V.iconst (v := nI 1) dX6_touches_96 (by decide) ?_
          refine V.aload_n dX6_touches_97 rfl ?_
          refine V.iload_n dX6_touches_98 rfl ?_
          refine V.iconst (v := nI 0) dX6_touches_99 (by decide) ?_
          refine V.callSv [_, _, _] dX6_touches_100 lk_X6_82 rfl (Nat.le_of_ble_eq_true rfl) (Nat.le_of_ble_eq_true rfl) (s6_get _ _ _ _ _ _ (by first | assumption | exact hset_self _ _ _) _ _ (by omega) (by omega)) ?_
          refine V.isub dX6_touches_103 ?_
          refine V.callSv [_] dX6_touches_104 lk_X6_75 rfl (Nat.le_of_ble_eq_true rfl) (Nat.le_of_ble_eq_true rfl) (s6_gaolOf _ _ _ _ _) ?_
          refine V.callSu [_, _, _, _] dX6_touches_107 lk_X6_86 rfl (Nat.le_of_ble_eq_true rfl) (Nat.le_of_ble_eq_true rfl) (s6_puts _ _ _ _ _ _ (by first | assumption | exact hset_self _ _ _) _ _ _ (by omega) (by omega)) ?_
          refine V.aload_n dX6_touches_110 rfl ?_
          refine V.iload_n dX6_touches_111 rfl ?_
          refine V.bipush (v := nI 6) dX6_touches_112 (by decide) ?_
          refine V.iconst (v := nI 0) dX6_touches_114 (by decide) ?_
          refine V.callSu [_, _, _, _] dX6_touches_115 lk_X6_86 rfl (Nat.le_of_ble_eq_true rfl) (Nat.le_of_ble_eq_true rfl) (s6_puts _ _ _ _ _ _ (by first | assumption | exact hset_self _ _ _) _ _ _ (by omega) (by omega)) ?_
          exact V.vretP (by exact dX6_touches_118) rfl (by (try simp only [← Int32.not_le, Classical.not_not] at *); simp only [hset_hset, tch, tr, tq, td, ← Int32.not_le, c8, eq_true c33, eq_true c63, c33x, not_true_eq_false, not_false_eq_true, if_true, if_false, decide_true, decide_false, Bool.and_true, Bool.and_false, Bool.true_and, Bool.false_and, Bool.or_true, Bool.or_false, Bool.true_or, Bool.false_or, Bool.not_true, Bool.not_false, and_true, and_false, true_and, false_and, or_true, or_false, true_or, false_or, bIt, bIf, Bool.false_eq_true, reduceCtorEq])
    · refine V.goto (tgt := 80) dX6_touches_36 (by decide) ?_
      refine V.inN2 dX6_touches_80 (by decide) rfl ?_
      refine V.goto (tgt := 22) dX6_touches_83 (by decide) ?_
      refine V.iload_n dX6_touches_22 rfl ?_
      refine V.iconst (v := nI 2) dX6_touches_23 (by decide) ?_
      refine V.icmp_ge (tgt := 86) dX6_touches_24 (by decide) (fun q => absurd q (by decide)) (fun _ => ?_)
      refine V.aload_n dX6_touches_27 rfl ?_
      refine V.iload_n dX6_touches_28 rfl ?_
      refine V.callSv [_, _] dX6_touches_29 lk_X6_188 rfl (Nat.le_of_ble_eq_true rfl) (Nat.le_of_ble_eq_true rfl) (s6_carrierOf _ _ _ _ _ _ (by first | assumption | exact hset_self _ _ _) _ (by omega)) ?_
      refine V.iload_n dX6_touches_32 rfl ?_
      refine V.icmp_eq (tgt := 39) dX6_touches_33 (by decide) (fun c33x => ?_) (fun c33x => ?_)
      · refine V.aload_n dX6_touches_39 rfl ?_
        refine V.bipush (v := nI 96) dX6_touches_40 (by decide) ?_
        refine V.iconst (v := nI 2) dX6_touches_42 (by decide) ?_
        refine V.iload_n dX6_touches_43 rfl ?_
        refine V.imulN dX6_touches_44 ?_
        refine V.iaddN dX6_touches_45 ?_
        refine V.iconst (v := nI 1) dX6_touches_46 (by decide) ?_
        refine V.iaddN dX6_touches_47 ?_
        refine V.bipush (v := -4) dX6_touches_48 (by decide) ?_
        refine V.iastN dX6_touches_50 (by first | assumption | exact hset_self _ _ _) (by omega) (by decide) ?_
        refine V.aload_n dX6_touches_51 rfl ?_
        refine V.bipush (v := nI 96) dX6_touches_52 (by decide) ?_
        refine V.iconst (v := nI 2) dX6_touches_54 (by decide) ?_
        refine V.iload_n dX6_touches_55 rfl ?_
        refine V.imulN dX6_touches_56 ?_
        refine V.iaddN dX6_touches_57 ?_
        refine V.aload_n dX6_touches_58 rfl ?_
        refine V.bipush (v := nI 87) dX6_touches_59 (by decide) ?_
        refine V.ialdN dX6_touches_61 (by first | assumption | exact hset_self _ _ _) (by omega) (by decide) ?_
        refine V.iconst (v := nI 1) dX6_touches_62 (by decide) ?_
        refine V.icmp_ne (tgt := 73) dX6_touches_63 (by decide) (fun c63 => ?_) (fun c63 => ?_)
        · refine V.aload_n dX6_touches_73 rfl ?_
          refine V.iload_n dX6_touches_74 rfl ?_
          refine V.iconst (v := nI 4) dX6_touches_75 (by decide) ?_
          refine V.callSv [_, _, _] dX6_touches_76 lk_X6_82 rfl (Nat.le_of_ble_eq_true rfl) (Nat.le_of_ble_eq_true rfl) (s6_get _ _ _ _ _ _ (by first | assumption | exact hset_self _ _ _) _ _ (by omega) (by omega)) ?_
          refine V.iastN dX6_touches_79 (by first | assumption | exact hset_self _ _ _) (by omega) (by decide) ?_
          refine V.inN2 dX6_touches_80 (by decide) rfl ?_
          refine V.goto (tgt := 22) dX6_touches_83 (by decide) ?_
          refine V.iload_n dX6_touches_22 rfl ?_
          refine V.iconst (v := nI 2) dX6_touches_23 (by decide) ?_
          refine V.icmp_ge (tgt := 86) dX6_touches_24 (by decide) (fun _ => ?_) (fun q => absurd q (by decide))
          refine V.aload_n dX6_touches_86 rfl ?_
          refine V.iload_n dX6_touches_87 rfl ?_
          refine V.iconst (v := nI 5) dX6_touches_88 (by decide) ?_
          refine V.iconst (v := nI 1) dX6_touches_89 (by decide) ?_
          refine V.callSu [_, _, _, _] dX6_touches_90 lk_X6_86 rfl (Nat.le_of_ble_eq_true rfl) (Nat.le_of_ble_eq_true rfl) (s6_puts _ _ _ _ _ _ (by first | assumption | exact hset_self _ _ _) _ _ _ (by omega) (by omega)) ?_
          refine V.aload_n dX6_touches_93 rfl ?_
          refine V.iload_n dX6_touches_94 rfl ?_
          refine V.iconst (v := nI 4) dX6_touches_95 (by decide) ?_
          refine V.iconst (v := nI 1) dX6_touches_96 (by decide) ?_
          refine V.aload_n dX6_touches_97 rfl ?_
          refine V.iload_n dX6_touches_98 rfl ?_
          refine V.iconst (v := nI 0) dX6_touches_99 (by decide) ?_
          refine V.callSv [_, _, _] dX6_touches_100 lk_X6_82 rfl (Nat.le_of_ble_eq_true rfl) (Nat.le_of_ble_eq_true rfl) (s6_get _ _ _ _ _ _ (by first | assumption | exact hset_self _ _ _) _ _ (by omega) (by omega)) ?_
          refine V.isub dX6_touches_103 ?_
          refine V.callSv [_] dX6_touches_104 lk_X6_75 rfl (Nat.le_of_ble_eq_true rfl) (Nat.le_of_ble_eq_true rfl) (s6_gaolOf _ _ _ _ _) ?_
          refine V.callSu [_, _, _, _] dX6_touches_107 lk_X6_86 rfl (Nat.le_of_ble_eq_true rfl) (Nat.le_of_ble_eq_true rfl) (s6_puts _ _ _ _ _ _ (by first | assumption | exact hset_self _ _ _) _ _ _ (by omega) (by omega)) ?_
          refine V.aload_n dX6_touches_110 rfl ?_
          refine V.iload_n dX6_touches_111 rfl ?_
          refine V.bipush (v := nI 6) dX6_touches_112 (by decide) ?_
          refine V.iconst (v := nI 0) dX6_touches_114 (by decide) ?_
          refine V.callSu [_, _, _, _] dX6_touches_115 lk_X6_86 rfl (Nat.le_of_ble_eq_true rfl) (Nat.le_of_ble_eq_true rfl) (s6_puts _ _ _ _ _ _ (by first | assumption | exact hset_self _ _ _) _ _ _ (by omega) (by omega)) ?_
          exact V.vretP (by exact dX6_touches_118) rfl (by (try simp only [← Int32.not_le, Classical.not_not] at *); simp only [hset_hset, tch, tr, tq, td, ← Int32.not_le, c8, c33, eq_true c33x, c63, not_true_eq_false, not_false_eq_true, if_true, if_false, decide_true, decide_false, Bool.and_true, Bool.and_false, Bool.true_and, Bool.false_and, Bool.or_true, Bool.or_false, Bool.true_or, Bool.false_or, Bool.not_true, Bool.not_false, and_true, and_false, true_and, false_and, or_true, or_false, true_or, false_or, bIt, bIf, Bool.false_eq_true, reduceCtorEq])
        · refine V.iload_n dX6_touches_66 rfl ?_
          refine V.callSv [_] dX6_touches_67 lk_X6_72 rfl (Nat.le_of_ble_eq_true rfl) (Nat.le_of_ble_eq_true rfl) (s6_flagPlace _ _ _ _ _) ?_
          refine V.goto (tgt := 79) dX6_touches_70 (by decide) ?_
          refine V.iastN dX6_touches_79 (by first | assumption | exact hset_self _ _ _) (by omega) (by decide) ?_
          refine V.inN2 dX6_touches_80 (by decide) rfl ?_
          refine V.goto (tgt := 22) dX6_touches_83 (by decide) ?_
          refine V.iload_n dX6_touches_22 rfl ?_
          refine V.iconst (v := nI 2) dX6_touches_23 (by decide) ?_
          refine V.icmp_ge (tgt := 86) dX6_touches_24 (by decide) (fun _ => ?_) (fun q => absurd q (by decide))
          refine V.aload_n dX6_touches_86 rfl ?_
          refine V.iload_n dX6_touches_87 rfl ?_
          refine V.iconst (v := nI 5) dX6_touches_88 (by decide) ?_
          refine V.iconst (v := nI 1) dX6_touches_89 (by decide) ?_
          refine V.callSu [_, _, _, _] dX6_touches_90 lk_X6_86 rfl (Nat.le_of_ble_eq_true rfl) (Nat.le_of_ble_eq_true rfl) (s6_puts _ _ _ _ _ _ (by first | assumption | exact hset_self _ _ _) _ _ _ (by omega) (by omega)) ?_
          refine V.aload_n dX6_touches_93 rfl ?_
          refine V.iload_n dX6_touches_94 rfl ?_
          refine V.iconst (v := nI 4) dX6_touches_95 (by decide) ?_
          refine V.iconst (v := nI 1) dX6_touches_96 (by decide) ?_
          refine V.aload_n dX6_touches_97 rfl ?_
          refine V.iload_n dX6_touches_98 rfl ?_
          refine V.iconst (v := nI 0) dX6_touches_99 (by decide) ?_
          refine V.callSv [_, _, _] dX6_touches_100 lk_X6_82 rfl (Nat.le_of_ble_eq_true rfl) (Nat.le_of_ble_eq_true rfl) (s6_get _ _ _ _ _ _ (by first | assumption | exact hset_self _ _ _) _ _ (by omega) (by omega)) ?_
          refine V.isub dX6_touches_103 ?_
          refine V.callSv [_] dX6_touches_104 lk_X6_75 rfl (Nat.le_of_ble_eq_true rfl) (Nat.le_of_ble_eq_true rfl) (s6_gaolOf _ _ _ _ _) ?_
          refine V.callSu [_, _, _, _] dX6_touches_107 lk_X6_86 rfl (Nat.le_of_ble_eq_true rfl) (Nat.le_of_ble_eq_true rfl) (s6_puts _ _ _ _ _ _ (by first | assumption | exact hset_self _ _ _) _ _ _ (by omega) (by omega)) ?_
          refine V.aload_n dX6_touches_110 rfl ?_
          refine V.iload_n dX6_touches_111 rfl ?_
          refine V.bipush (v := nI 6) dX6_touches_112 (by decide) ?_
          refine V.iconst (v := nI 0) dX6_touches_114 (by decide) ?_
          refine V.callSu [_, _, _, _] dX6_touches_115 lk_X6_86 rfl (Nat.le_of_ble_eq_true rfl) (Nat.le_of_ble_eq_true rfl) (s6_puts _ _ _ _ _ _ (by first | assumption | exact hset_self _ _ _) _ _ _ (by omega) (by omega)) ?_
          exact V.vretP (by exact dX6_touches_118) rfl (by (try simp only [← Int32.not_le, Classical.not_not] at *); simp only [hset_hset, tch, tr, tq, td, ← Int32.not_le, c8, c33, eq_true c33x, eq_true c63, not_true_eq_false, not_false_eq_true, if_true, if_false, decide_true, decide_false, Bool.and_true, Bool.and_false, Bool.true_and, Bool.false_and, Bool.or_true, Bool.or_false, Bool.true_or, Bool.false_or, Bool.not_true, Bool.not_false, and_true, and_false, true_and, false_and, or_true, or_false, true_or, false_or, bIt, bIf, Bool.false_eq_true, reduceCtorEq])
      · refine V.goto (tgt := 80) dX6_touches_36 (by decide) ?_
        refine V.inN2 dX6_touches_80 (by decide) rfl ?_
        refine V.goto (tgt := 22) dX6_touches_83 (by decide) ?_
        refine V.iload_n dX6_touches_22 rfl ?_
        refine V.iconst (v := nI 2) dX6_touches_23 (by decide) ?_
        refine V.icmp_ge (tgt := 86) dX6_touches_24 (by decide) (fun _ => ?_) (fun q => absurd q (by decide))
        refine V.aload_n dX6_touches_86 rfl ?_
        refine V.iload_n dX6_touches_87 rfl ?_
        refine V.iconst (v := nI 5) dX6_touches_88 (by decide) ?_
        refine V.iconst (v := nI 1) dX6_touches_89 (by decide) ?_
        refine V.callSu [_, _, _, _] dX6_touches_90 lk_X6_86 rfl (Nat.le_of_ble_eq_true rfl) (Nat.le_of_ble_eq_true rfl) (s6_puts _ _ _ _ _ _ (by first | assumption | exact hset_self _ _ _) _ _ _ (by omega) (by omega)) ?_
        refine V.aload_n dX6_touches_93 rfl ?_
        refine V.iload_n dX6_touches_94 rfl ?_
        refine V.iconst (v := nI 4) dX6_touches_95 (by decide) ?_
        refine V.iconst (v := nI 1) dX6_touches_96 (by decide) ?_
        refine V.aload_n dX6_touches_97 rfl ?_
        refine V.iload_n dX6_touches_98 rfl ?_
        refine V.iconst (v := nI 0) dX6_touches_99 (by decide) ?_
        refine V.callSv [_, _, _] dX6_touches_100 lk_X6_82 rfl (Nat.le_of_ble_eq_true rfl) (Nat.le_of_ble_eq_true rfl) (s6_get _ _ _ _ _ _ (by first | assumption | exact hset_self _ _ _) _ _ (by omega) (by omega)) ?_
        refine V.isub dX6_touches_103 ?_
        refine V.callSv [_] dX6_touches_104 lk_X6_75 rfl (Nat.le_of_ble_eq_true rfl) (Nat.le_of_ble_eq_true rfl) (s6_gaolOf _ _ _ _ _) ?_
        refine V.callSu [_, _, _, _] dX6_touches_107 lk_X6_86 rfl (Nat.le_of_ble_eq_true rfl) (Nat.le_of_ble_eq_true rfl) (s6_puts _ _ _ _ _ _ (by first | assumption | exact hset_self _ _ _) _ _ _ (by omega) (by omega)) ?_
        refine V.aload_n dX6_touches_110 rfl ?_
        refine V.iload_n dX6_touches_111 rfl ?_
        refine V.bipush (v := nI 6) dX6_touches_112 (by decide) ?_
        refine V.iconst (v := nI 0) dX6_touches_114 (by decide) ?_
        refine V.callSu [_, _, _, _] dX6_touches_115 lk_X6_86 rfl (Nat.le_of_ble_eq_true rfl) (Nat.le_of_ble_eq_true rfl) (s6_puts _ _ _ _ _ _ (by first | assumption | exact hset_self _ _ _) _ _ _ (by omega) (by omega)) ?_
        exact V.vretP (by exact dX6_touches_118) rfl (by (try simp only [← Int32.not_le, Classical.not_not] at *); simp only [hset_hset, tch, tr, tq, td, ← Int32.not_le, c8, c33, c33x, not_true_eq_false, not_false_eq_true, if_true, if_false, decide_true, decide_false, Bool.and_true, Bool.and_false, Bool.true_and, Bool.false_and, Bool.or_true, Bool.or_false, Bool.true_or, Bool.false_or, Bool.not_true, Bool.not_false, and_true, and_false, true_and, false_and, or_true, or_false, true_or, false_or, bIt, bIf, Bool.false_eq_true, reduceCtorEq])
  · exact V.vretP (by exact dX6_touches_11) rfl (by (try simp only [← Int32.not_le, Classical.not_not] at *); simp only [hset_hset, tch, tr, tq, td, ← Int32.not_le, c8, not_true_eq_false, not_false_eq_true, if_true, if_false, decide_true, decide_false, Bool.and_true, Bool.and_false, Bool.true_and, Bool.false_and, Bool.or_true, Bool.or_false, Bool.true_or, Bool.false_or, Bool.not_true, Bool.not_false, and_true, and_false, true_and, false_and, or_true, or_false, true_or, false_or, bIt, bIf, Bool.false_eq_true, reduceCtorEq])
/-- one comes home from the gaol -/
def rel (K : KK) (p : Nat) : KK := upd (upd (upd K (114 + 7 * p + 5) (nI 0)) (114 + 7 * p + 4) (gP (upd K (114 + 7 * p + 5) (nI 0)) p 3)) (114 + 7 * p + 6) (nI 0)
def frL (s : Int32) : Nat → Nat → KK → KK
  | 0, _, K => K
  | r + 1, p, K => if gP K p 0 = s then (if gP K p 5 = nI 1 then (if rel K p 88 = 0 then rel K p else frL s r (p + 1) (rel K p)) else frL s r (p + 1) K) else frL s r (p + 1) K
theorem rel_lo (K : KK) (p j : Nat) (hj : j < 114) : rel K p j = K j := by
  unfold rel
  rw [pk_un (by omega), pk_un (by omega), pk_un (by omega)]
set_option maxRecDepth 20000 in
set_option maxHeartbeats 4000000 in
theorem s6_frees_loop (l : Launch) (d : Nat) (n a : Nat) (s : Int32) (m : Nat) (hm10 : m ≤ 10) : ∀ (r p : Nat) (K : KK) (h : MH), h a = some (kc K) → K 90 = nI m → p + r = m → V l mX6_frees (d + 1) 2 [some (.ref a), some (.int s), some (.int (nI p))] [] h n 0 0 (Pu (hset h a (kc (frL s r p K))) n) := by
  intro r
  induction r with
  | zero =>
    intro p K h ha hm hp
    refine V.iload_n dX6_frees_2 rfl ?_
    refine V.aload_n dX6_frees_3 rfl ?_
    refine V.bipush (v := nI 90) dX6_frees_4 (by decide) ?_
    refine V.ialdN dX6_frees_6 (by first | assumption | exact hset_self _ _ _) (by omega) (by decide) ?_
    rw [hm]
    refine V.icmp_geN (tgt := 74) dX6_frees_7 (by decide) (by omega) (by omega) (fun _ => ?_) (fun q => absurd q (by omega))
    exact V.vretP (by exact dX6_frees_74) rfl (by rw [frL, hset_id ha])
  | succ r ih =>
    intro p K h ha hm hp
    refine V.iload_n dX6_frees_2 rfl ?_
    refine V.aload_n dX6_frees_3 rfl ?_
    refine V.bipush (v := nI 90) dX6_frees_4 (by decide) ?_
    refine V.ialdN dX6_frees_6 (by first | assumption | exact hset_self _ _ _) (by omega) (by decide) ?_
    rw [hm]
    refine V.icmp_geN (tgt := 74) dX6_frees_7 (by decide) (by omega) (by omega) (fun q => absurd q (by omega)) (fun _ => ?_)
    refine V.aload_n dX6_frees_10 rfl ?_
    refine V.iload_n dX6_frees_11 rfl ?_
    refine V.iconst (v := nI 0) dX6_frees_12 (by decide) ?_
    refine V.callSv [_, _, _] dX6_frees_13 lk_X6_82 rfl (Nat.le_of_ble_eq_true rfl) (Nat.le_of_ble_eq_true rfl) (s6_get _ _ _ _ _ _ (by first | assumption | exact hset_self _ _ _) _ _ (by omega) (by omega)) ?_
    refine V.iload_n dX6_frees_16 rfl ?_
    refine V.icmp_ne (tgt := 68) dX6_frees_17 (by decide) (fun c17 => ?_) (fun c17 => ?_)
    · refine V.inN2 dX6_frees_68 (by decide) rfl ?_
      refine V.goto (tgt := 2) dX6_frees_71 (by decide) ?_
      first | exact V.quH (by simp only [hset_hset, frL, c17, not_true_eq_false, not_false_eq_true, if_true, if_false, decide_true, decide_false, Bool.and_true, Bool.and_false, Bool.true_and, Bool.false_and, Bool.or_true, Bool.or_false, Bool.true_or, Bool.false_or, Bool.not_true, Bool.not_false, and_true, and_false, true_and, false_and, or_true, or_false, true_or, false_or, bIt, bIf, Bool.false_eq_true, reduceCtorEq]) (ih (p + 1) K h ha hm (by omega)) | exact V.quH (by simp only [hset_hset, frL, c17, not_true_eq_false, not_false_eq_true, if_true, if_false, decide_true, decide_false, Bool.and_true, Bool.and_false, Bool.true_and, Bool.false_and, Bool.or_true, Bool.or_false, Bool.true_or, Bool.false_or, Bool.not_true, Bool.not_false, and_true, and_false, true_and, false_and, or_true, or_false, true_or, false_or, bIt, bIf, Bool.false_eq_true, reduceCtorEq]; have c64y : ¬ rel K p 88 = 0 := c64; simp only [c64y, if_false]) (ih (p + 1) (rel K p) _ (by simp only [hset_hset]; exact hset_self _ _ _) (by rw [rel_lo _ _ _ (by omega)]; exact hm) (by omega))
    · refine V.aload_n dX6_frees_20 rfl ?_
      refine V.iload_n dX6_frees_21 rfl ?_
      refine V.iconst (v := nI 5) dX6_frees_22 (by decide) ?_
      refine V.callSv [_, _, _] dX6_frees_23 lk_X6_82 rfl (Nat.le_of_ble_eq_true rfl) (Nat.le_of_ble_eq_true rfl) (s6_get _ _ _ _ _ _ (by first | assumption | exact hset_self _ _ _) _ _ (by omega) (by omega)) ?_
      refine V.iconst (v := nI 1) dX6_frees_26 (by decide) ?_
      refine V.icmp_eq (tgt := 33) dX6_frees_27 (by decide) (fun c27 => ?_) (fun c27 => ?_)
      · refine V.aload_n dX6_frees_33 rfl ?_
        refine V.iload_n dX6_frees_34 rfl ?_
        refine V.iconst (v := nI 5) dX6_frees_35 (by decide) ?_
        refine V.iconst (v := nI 0) dX6_frees_36 (by decide) ?_
        refine V.callSu [_, _, _, _] dX6_frees_37 lk_X6_86 rfl (Nat.le_of_ble_eq_true rfl) (Nat.le_of_ble_eq_true rfl) (s6_puts _ _ _ _ _ _ (by first | assumption | exact hset_self _ _ _) _ _ _ (by omega) (by omega)) ?_
        refine V.aload_n dX6_frees_40 rfl ?_
        refine V.iload_n dX6_frees_41 rfl ?_
        refine V.iconst (v := nI 4) dX6_frees_42 (by decide) ?_
        refine V.aload_n dX6_frees_43 rfl ?_
        refine V.iload_n dX6_frees_44 rfl ?_
        refine V.iconst (v := nI 3) dX6_frees_45 (by decide) ?_
        refine V.callSv [_, _, _] dX6_frees_46 lk_X6_82 rfl (Nat.le_of_ble_eq_true rfl) (Nat.le_of_ble_eq_true rfl) (s6_get _ _ _ _ _ _ (by first | assumption | exact hset_self _ _ _) _ _ (by omega) (by omega)) ?_
        refine V.callSu [_, _, _, _] dX6_frees_49 lk_X6_86 rfl (Nat.le_of_ble_eq_true rfl) (Nat.le_of_ble_eq_true rfl) (s6_puts _ _ _ _ _ _ (by first | assumption | exact hset_self _ _ _) _ _ _ (by omega) (by omega)) ?_
        refine V.aload_n dX6_frees_52 rfl ?_
        refine V.iload_n dX6_frees_53 rfl ?_
        refine V.bipush (v := nI 6) dX6_frees_54 (by decide) ?_
        refine V.iconst (v := nI 0) dX6_frees_56 (by decide) ?_
        refine V.callSu [_, _, _, _] dX6_frees_57 lk_X6_86 rfl (Nat.le_of_ble_eq_true rfl) (Nat.le_of_ble_eq_true rfl) (s6_puts _ _ _ _ _ _ (by first | assumption | exact hset_self _ _ _) _ _ _ (by omega) (by omega)) ?_
        refine V.aload_n dX6_frees_60 rfl ?_
        refine V.bipush (v := nI 88) dX6_frees_61 (by decide) ?_
        refine V.ialdN dX6_frees_63 (by first | assumption | exact hset_self _ _ _) (by omega) (by decide) ?_
        refine V.if_ne (tgt := 68) dX6_frees_64 (by decide) (fun c64 => ?_) (fun c64 => ?_)
        · refine V.inN2 dX6_frees_68 (by decide) rfl ?_
          refine V.goto (tgt := 2) dX6_frees_71 (by decide) ?_
          first | exact V.quH (by simp only [hset_hset, frL, eq_true c17, eq_true c27, c64, not_true_eq_false, not_false_eq_true, if_true, if_false, decide_true, decide_false, Bool.and_true, Bool.and_false, Bool.true_and, Bool.false_and, Bool.or_true, Bool.or_false, Bool.true_or, Bool.false_or, Bool.not_true, Bool.not_false, and_true, and_false, true_and, false_and, or_true, or_false, true_or, false_or, bIt, bIf, Bool.false_eq_true, reduceCtorEq]) (ih (p + 1) K h ha hm (by omega)) | exact V.quH (by simp only [hset_hset, frL, eq_true c17, eq_true c27, c64, not_true_eq_false, not_false_eq_true, if_true, if_false, decide_true, decide_false, Bool.and_true, Bool.and_false, Bool.true_and, Bool.false_and, Bool.or_true, Bool.or_false, Bool.true_or, Bool.false_or, Bool.not_true, Bool.not_false, and_true, and_false, true_and, false_and, or_true, or_false, true_or, false_or, bIt, bIf, Bool.false_eq_true, reduceCtorEq]; have c64y : ¬ rel K p 88 = 0 := c64; simp only [c64y, if_false]) (ih (p + 1) (rel K p) _ (by simp only [hset_hset]; exact hset_self _ _ _) (by rw [rel_lo _ _ _ (by omega)]; exact hm) (by omega))
        · exact V.vretP (by exact dX6_frees_67) rfl (by have c64y : rel K p 88 = 0 := c64; simp only [hset_hset, frL, c64y, eq_true c17, eq_true c27, eq_true c64, not_true_eq_false, not_false_eq_true, if_true, if_false, decide_true, decide_false, Bool.and_true, Bool.and_false, Bool.true_and, Bool.false_and, Bool.or_true, Bool.or_false, Bool.true_or, Bool.false_or, Bool.not_true, Bool.not_false, and_true, and_false, true_and, false_and, or_true, or_false, true_or, false_or, bIt, bIf, Bool.false_eq_true, reduceCtorEq]; rfl)
      · refine V.goto (tgt := 68) dX6_frees_30 (by decide) ?_
        refine V.inN2 dX6_frees_68 (by decide) rfl ?_
        refine V.goto (tgt := 2) dX6_frees_71 (by decide) ?_
        first | exact V.quH (by simp only [hset_hset, frL, eq_true c17, c27, not_true_eq_false, not_false_eq_true, if_true, if_false, decide_true, decide_false, Bool.and_true, Bool.and_false, Bool.true_and, Bool.false_and, Bool.or_true, Bool.or_false, Bool.true_or, Bool.false_or, Bool.not_true, Bool.not_false, and_true, and_false, true_and, false_and, or_true, or_false, true_or, false_or, bIt, bIf, Bool.false_eq_true, reduceCtorEq]) (ih (p + 1) K h ha hm (by omega)) | exact V.quH (by simp only [hset_hset, frL, eq_true c17, c27, not_true_eq_false, not_false_eq_true, if_true, if_false, decide_true, decide_false, Bool.and_true, Bool.and_false, Bool.true_and, Bool.false_and, Bool.or_true, Bool.or_false, Bool.true_or, Bool.false_or, Bool.not_true, Bool.not_false, and_true, and_false, true_and, false_and, or_true, or_false, true_or, false_or, bIt, bIf, Bool.false_eq_true, reduceCtorEq]; have c64y : ¬ rel K p 88 = 0 := c64; simp only [c64y, if_false]) (ih (p + 1) (rel K p) _ (by simp only [hset_hset]; exact hset_self _ _ _) (by rw [rel_lo _ _ _ (by omega)]; exact hm) (by omega))
set_option maxRecDepth 20000 in
set_option maxHeartbeats 4000000 in
theorem s6_frees (l : Launch) (d : Nat) (h : MH) (n a : Nat) (K : KK) (ha : h a = some (kc K)) (s : Int32) (m : Nat) (hm : K 90 = nI m) (hm10 : m ≤ 10) : Sp l mX6_frees (d + 1) [.ref a, .int s] h n 0 0 (Pu (hset h a (kc (frL s m 0 K))) n) := by
  show V _ _ _ _ [some (.ref a), some (.int s), none] _ _ _ _ _ _
  refine V.iconst (v := nI 0) dX6_frees_0 (by decide) ?_
  refine V.ist2 dX6_frees_1 (by decide) rfl ?_
  exact s6_frees_loop l d n a s m hm10 m 0 K h ha hm (by omega)
/-- where one wants to go -/
def goal (K : KK) (m p : Nat) : Int32 :=
  if hasF K (nI p) = true then gP K p 3
  else if role K m p 0 = nI 1 ∨ role K m p 0 = nI 5 ∨ role K m p 0 = nI 7 then
    (if prey K m p < 0 then (if role K m p 0 = nI 1 then gP K p 3 else if role K m p 0 = nI 5 then gl (gP K p 0) else (if gP K p 0 = 0 then nI (36 + 3) else nI (36 + 8))) else gP K (prey K m p).toNatClampNeg 4)
  else if role K m p 0 = nI 3 then
    (if mind K m p (gP K p 4) (role K m p 1) = true then gP K p 3 else if mind K m p (nxt K p (K (96 + 2 * (1 - (gP K p 0).toNatClampNeg)))) (role K m p 1 / nI 2) = true then gP K p 4 else K (96 + 2 * (1 - (gP K p 0).toNatClampNeg)))
  else if role K m p 0 = nI 2 then
    (if mind K m p (nxt K p (K (96 + 2 * (1 - (gP K p 0).toNatClampNeg)))) (role K m p 1 / nI 2) = true then gP K p 4 else K (96 + 2 * (1 - (gP K p 0).toNatClampNeg)))
  else if role K m p 0 = nI 6 then (if 0 < nI (cntH K (gP K p 0) m) then gl (nI 1 - gP K p 0) else K (96 + 2 * (1 - (gP K p 0).toNatClampNeg)))
  else K (96 + 2 * (1 - (gP K p 0).toNatClampNeg))
theorem prey_pos {K : KK} {m p : Nat} (hm : m ≤ 10) (h : ¬ prey K m p < 0) : ∃ j : Nat, j < 10 ∧ prey K m p = nI j := pyL_pos hm h
set_option maxRecDepth 20000 in
set_option maxHeartbeats 4000000 in
theorem s6_goalOf (l : Launch) (d : Nat) (h : MH) (n a : Nat) (K : KK) (ha : h a = some (kc K)) (p : Nat) (hp : p < 10) (m : Nat) (hm : K 90 = nI m) (hm10 : m ≤ 10) (e0 q0 : Nat) (he : e0 < 2) (hs : gP K p 0 = nI e0) (hq2 : q0 ≤ 2) (hq0 : K (100 + 7 * e0) = nI q0) (hat : ∀ q, q < m → gP K q 5 = nI 0 → cellv (gP K q 4)) (kq : Nat) (hk8 : kq < 8) (hk : role K m p 0 = nI kq) : Sp l mX6_goalOf (d + 5) [.ref a, .int (nI p)] h n 0 0 (Pv (goal K m p) h n) := by
  have hs2 : (gP K p 0).toNatClampNeg = e0 := by rw [hs]; exact clampI (by omega)
  show V _ _ _ _ [some (.ref a), some (.int (nI p)), none, none, none, none, none, none, none] _ _ _ _ _ _
  refine V.aload_n dX6_goalOf_0 rfl ?_
  refine V.iload_n dX6_goalOf_1 rfl ?_
  refine V.iconst (v := nI 0) dX6_goalOf_2 (by decide) ?_
  refine V.callSv [_, _, _] dX6_goalOf_3 lk_X6_82 rfl (Nat.le_of_ble_eq_true rfl) (Nat.le_of_ble_eq_true rfl) (s6_get _ _ _ _ _ _ (by first | assumption | exact hset_self _ _ _) _ _ (by omega) (by omega)) ?_
  rw [hs]
  refine V.ist2 dX6_goalOf_6 (by decide) rfl ?_
  refine V.aload_n dX6_goalOf_7 rfl ?_
  refine V.iload_n dX6_goalOf_8 rfl ?_
  refine V.iconst (v := nI 3) dX6_goalOf_9 (by decide) ?_
  refine V.callSv [_, _, _] dX6_goalOf_10 lk_X6_82 rfl (Nat.le_of_ble_eq_true rfl) (Nat.le_of_ble_eq_true rfl) (s6_get _ _ _ _ _ _ (by first | assumption | exact hset_self _ _ _) _ _ (by omega) (by omega)) ?_
  refine V.ist3 dX6_goalOf_13 (by decide) rfl ?_
  refine V.aload_n dX6_goalOf_14 rfl ?_
  refine V.iload_n dX6_goalOf_15 rfl ?_
  refine V.callSv [_, _] dX6_goalOf_16 lk_X6_191 rfl (Nat.le_of_ble_eq_true rfl) (Nat.le_of_ble_eq_true rfl) (s6_hasFlag _ _ _ _ _ _ (by first | assumption | exact hset_self _ _ _) _) ?_
  refine V.if_eqB (tgt := 24) dX6_goalOf_19 (by decide) (fun c19 => ?_) (fun c19 => ?_)
  · refine V.aload_n dX6_goalOf_24 rfl ?_
    refine V.bipush (v := nI 96) dX6_goalOf_25 (by decide) ?_
    refine V.iconst (v := nI 2) dX6_goalOf_27 (by decide) ?_
    refine V.iconst (v := nI 1) dX6_goalOf_28 (by decide) ?_
    refine V.iload_n dX6_goalOf_29 rfl ?_
    refine V.isubN dX6_goalOf_30 (by omega) ?_
    refine V.imulN dX6_goalOf_31 ?_
    refine V.iaddN dX6_goalOf_32 ?_
    refine V.ialdN dX6_goalOf_33 (by first | assumption | exact hset_self _ _ _) (by omega) (by decide) ?_
    refine V.ist4 dX6_goalOf_34 (by decide) rfl ?_
    refine V.aload_n dX6_goalOf_36 rfl ?_
    refine V.iload_n dX6_goalOf_37 rfl ?_
    refine V.iconst (v := nI 1) dX6_goalOf_38 (by decide) ?_
    refine V.callSv [_, _, _] dX6_goalOf_39 lk_X6_178 rfl (Nat.le_of_ble_eq_true rfl) (Nat.le_of_ble_eq_true rfl) (s6_roleOf _ _ _ _ _ _ (by first | assumption | exact hset_self _ _ _) _ _ (by omega) (by omega) _ (by assumption) (by assumption) _ _ (by assumption) (by assumption) (by assumption) (by assumption)) ?_
    refine V.ist5 dX6_goalOf_42 (by decide) rfl ?_
    refine V.aload_n dX6_goalOf_44 rfl ?_
    refine V.iload_n dX6_goalOf_45 rfl ?_
    refine V.iconst (v := nI 0) dX6_goalOf_46 (by decide) ?_
    refine V.callSv [_, _, _] dX6_goalOf_47 lk_X6_178 rfl (Nat.le_of_ble_eq_true rfl) (Nat.le_of_ble_eq_true rfl) (s6_roleOf _ _ _ _ _ _ (by first | assumption | exact hset_self _ _ _) _ _ (by omega) (by omega) _ (by assumption) (by assumption) _ _ (by assumption) (by assumption) (by assumption) (by assumption)) ?_
    refine V.ist6 dX6_goalOf_50 (by decide) rfl ?_
    refine V.aload_n dX6_goalOf_52 rfl ?_
    refine V.iload_n dX6_goalOf_53 rfl ?_
    refine V.iconst (v := nI 4) dX6_goalOf_54 (by decide) ?_
    refine V.callSv [_, _, _] dX6_goalOf_55 lk_X6_82 rfl (Nat.le_of_ble_eq_true rfl) (Nat.le_of_ble_eq_true rfl) (s6_get _ _ _ _ _ _ (by first | assumption | exact hset_self _ _ _) _ _ (by omega) (by omega)) ?_
    refine V.ist7 dX6_goalOf_58 (by decide) rfl ?_
    rw [hk]
    rcases (show kq = 0 ∨ kq = 1 ∨ kq = 2 ∨ kq = 3 ∨ kq = 4 ∨ kq = 5 ∨ kq = 6 ∨ kq = 7 by omega) with rfl | rfl | rfl | rfl | rfl | rfl | rfl | rfl
    · refine V.iload dX6_goalOf_60 rfl ?_
      refine V.tableOut (tgt := 249) dX6_goalOf_62 (by decide) (by decide) ?_
      refine V.iload dX6_goalOf_249 rfl ?_
      exact V.iretP (by exact dX6_goalOf_251) rfl (by (try simp only [← Int32.not_le, Classical.not_not] at *); simp only [goal, hk, c19, hs, clampI (show e0 < 2147483648 by omega), ← Int32.not_le, (show ¬ nI 0 = nI 1 by decide), (show ¬ nI 0 = nI 5 by decide), (show ¬ nI 0 = nI 7 by decide), (show ¬ nI 0 = nI 3 by decide), (show ¬ nI 0 = nI 2 by decide), (show ¬ nI 0 = nI 6 by decide), not_true_eq_false, not_false_eq_true, if_true, if_false, decide_true, decide_false, Bool.and_true, Bool.and_false, Bool.true_and, Bool.false_and, Bool.or_true, Bool.or_false, Bool.true_or, Bool.false_or, Bool.not_true, Bool.not_false, and_true, and_false, true_and, false_and, or_true, or_false, true_or, false_or, bIt, bIf, Bool.false_eq_true, reduceCtorEq]) rfl
    · refine V.iload dX6_goalOf_60 rfl ?_
      refine V.tableIn (off := 42) (tgt := 104) dX6_goalOf_62 (by decide) (by decide) (by decide) (by decide) ?_
      refine V.aload_n dX6_goalOf_104 rfl ?_
      refine V.iload_n dX6_goalOf_105 rfl ?_
      refine V.callSv [_, _] dX6_goalOf_106 lk_X6_194 rfl (Nat.le_of_ble_eq_true rfl) (Nat.le_of_ble_eq_true rfl) (s6_preyOf _ _ _ _ _ _ (by first | assumption | exact hset_self _ _ _) _ (by omega) _ (by assumption) (by assumption) _ _ (by assumption) (by assumption) (by assumption) (by assumption) (by assumption)) ?_
      refine V.ist8 dX6_goalOf_109 (by decide) rfl ?_
      refine V.iload dX6_goalOf_111 rfl ?_
      refine V.if_lt (tgt := 124) dX6_goalOf_113 (by decide) (fun c113 => ?_) (fun c113 => ?_)
      · refine V.iload dX6_goalOf_124 rfl ?_
        refine V.iconst (v := nI 1) dX6_goalOf_126 (by decide) ?_
        refine V.icmp_ne (tgt := 134) dX6_goalOf_127 (by decide) (fun q => absurd q (by decide)) (fun _ => ?_)
        refine V.iload_n dX6_goalOf_130 rfl ?_
        refine V.goto (tgt := 160) dX6_goalOf_131 (by decide) ?_
        exact V.iretP (by exact dX6_goalOf_160) rfl (by (try simp only [← Int32.not_le, Classical.not_not] at *); simp only [goal, hk, c19, hs, c113, clampI (show e0 < 2147483648 by omega), ← Int32.not_le, (show ¬ nI 1 = nI 5 by decide), (show ¬ nI 1 = nI 7 by decide), (show ¬ nI 1 = nI 3 by decide), (show ¬ nI 1 = nI 2 by decide), (show ¬ nI 1 = nI 6 by decide), not_true_eq_false, not_false_eq_true, if_true, if_false, decide_true, decide_false, Bool.and_true, Bool.and_false, Bool.true_and, Bool.false_and, Bool.or_true, Bool.or_false, Bool.true_or, Bool.false_or, Bool.not_true, Bool.not_false, and_true, and_false, true_and, false_and, or_true, or_false, true_or, false_or, bIt, bIf, Bool.false_eq_true, reduceCtorEq]) rfl
      · refine V.aload_n dX6_goalOf_116 rfl ?_
        refine V.iload dX6_goalOf_117 rfl ?_
        refine V.iconst (v := nI 4) dX6_goalOf_119 (by decide) ?_
        refine V.callSv [_, _, _] dX6_goalOf_120 lk_X6_82 rfl (Nat.le_of_ble_eq_true rfl) (Nat.le_of_ble_eq_true rfl) (s6_getI _ _ _ _ _ _ (by first | assumption | exact hset_self _ _ _) _ _ (prey_pos (by omega) c113) (by omega)) ?_
        exact V.iretP (by exact dX6_goalOf_123) rfl (by (try simp only [← Int32.not_le, Classical.not_not] at *); simp only [goal, hk, c19, hs, c113, clampI (show e0 < 2147483648 by omega), ← Int32.not_le, (show ¬ nI 1 = nI 5 by decide), (show ¬ nI 1 = nI 7 by decide), (show ¬ nI 1 = nI 3 by decide), (show ¬ nI 1 = nI 2 by decide), (show ¬ nI 1 = nI 6 by decide), not_true_eq_false, not_false_eq_true, if_true, if_false, decide_true, decide_false, Bool.and_true, Bool.and_false, Bool.true_and, Bool.false_and, Bool.or_true, Bool.or_false, Bool.true_or, Bool.false_or, Bool.not_true, Bool.not_false, and_true, and_false, true_and, false_and, or_true, or_false, true_or, false_or, bIt, bIf, Bool.false_eq_true, reduceCtorEq]) rfl
    · refine V.iload dX6_goalOf_60 rfl ?_
      refine V.tableIn (off := 140) (tgt := 202) dX6_goalOf_62 (by decide) (by decide) (by decide) (by decide) ?_
      refine V.aload_n dX6_goalOf_202 rfl ?_
      refine V.iload_n dX6_goalOf_203 rfl ?_
      refine V.aload_n dX6_goalOf_204 rfl ?_
      refine V.iload_n dX6_goalOf_205 rfl ?_
      refine V.iload dX6_goalOf_206 rfl ?_
      refine V.callSv [_, _, _] dX6_goalOf_208 lk_X6_201 rfl (Nat.le_of_ble_eq_true rfl) (Nat.le_of_ble_eq_true rfl) (s6_nextOf _ _ _ _ _ _ (by first | assumption | exact hset_self _ _ _) _ _ (by omega)) ?_
      refine V.iload dX6_goalOf_211 rfl ?_
      refine V.iconst (v := nI 2) dX6_goalOf_213 (by decide) ?_
      refine V.idiv dX6_goalOf_214 (by decide) ?_
      refine V.callSv [_, _, _, _] dX6_goalOf_215 lk_X6_197 rfl (Nat.le_of_ble_eq_true rfl) (Nat.le_of_ble_eq_true rfl) (s6_isMinded _ _ _ _ _ _ (by first | assumption | exact hset_self _ _ _) _ _ _ (by omega) _ (by assumption) (by assumption)) ?_
      refine V.if_eqB (tgt := 226) dX6_goalOf_218 (by decide) (fun c218 => ?_) (fun c218 => ?_)
      · refine V.iload dX6_goalOf_226 rfl ?_
        exact V.iretP (by exact dX6_goalOf_228) rfl (by (try simp only [← Int32.not_le, Classical.not_not] at *); simp only [goal, hk, c19, hs, c218, clampI (show e0 < 2147483648 by omega), ← Int32.not_le, (show ¬ nI 2 = nI 1 by decide), (show ¬ nI 2 = nI 5 by decide), (show ¬ nI 2 = nI 7 by decide), (show ¬ nI 2 = nI 3 by decide), (show ¬ nI 2 = nI 6 by decide), not_true_eq_false, not_false_eq_true, if_true, if_false, decide_true, decide_false, Bool.and_true, Bool.and_false, Bool.true_and, Bool.false_and, Bool.or_true, Bool.or_false, Bool.true_or, Bool.false_or, Bool.not_true, Bool.not_false, and_true, and_false, true_and, false_and, or_true, or_false, true_or, false_or, bIt, bIf, Bool.false_eq_true, reduceCtorEq]) rfl
      · refine V.iload dX6_goalOf_221 rfl ?_
        refine V.goto (tgt := 228) dX6_goalOf_223 (by decide) ?_
        exact V.iretP (by exact dX6_goalOf_228) rfl (by (try simp only [← Int32.not_le, Classical.not_not] at *); simp only [goal, hk, c19, hs, c218, clampI (show e0 < 2147483648 by omega), ← Int32.not_le, (show ¬ nI 2 = nI 1 by decide), (show ¬ nI 2 = nI 5 by decide), (show ¬ nI 2 = nI 7 by decide), (show ¬ nI 2 = nI 3 by decide), (show ¬ nI 2 = nI 6 by decide), not_true_eq_false, not_false_eq_true, if_true, if_false, decide_true, decide_false, Bool.and_true, Bool.and_false, Bool.true_and, Bool.false_and, Bool.or_true, Bool.or_false, Bool.true_or, Bool.false_or, Bool.not_true, Bool.not_false, and_true, and_false, true_and, false_and, or_true, or_false, true_or, false_or, bIt, bIf, Bool.false_eq_true, reduceCtorEq]) rfl
    · refine V.iload dX6_goalOf_60 rfl ?_
      refine V.tableIn (off := 99) (tgt := 161) dX6_goalOf_62 (by decide) (by decide) (by decide) (by decide) ?_
      refine V.aload_n dX6_goalOf_161 rfl ?_
      refine V.iload_n dX6_goalOf_162 rfl ?_
      refine V.iload dX6_goalOf_163 rfl ?_
      refine V.iload dX6_goalOf_165 rfl ?_
      refine V.callSv [_, _, _, _] dX6_goalOf_167 lk_X6_197 rfl (Nat.le_of_ble_eq_true rfl) (Nat.le_of_ble_eq_true rfl) (s6_isMinded _ _ _ _ _ _ (by first | assumption | exact hset_self _ _ _) _ _ _ (by omega) _ (by assumption) (by assumption)) ?_
      refine V.if_eqB (tgt := 175) dX6_goalOf_170 (by decide) (fun c170 => ?_) (fun c170 => ?_)
      · refine V.aload_n dX6_goalOf_175 rfl ?_
        refine V.iload_n dX6_goalOf_176 rfl ?_
        refine V.aload_n dX6_goalOf_177 rfl ?_
        refine V.iload_n dX6_goalOf_178 rfl ?_
        refine V.iload dX6_goalOf_179 rfl ?_
        refine V.callSv [_, _, _] dX6_goalOf_181 lk_X6_201 rfl (Nat.le_of_ble_eq_true rfl) (Nat.le_of_ble_eq_true rfl) (s6_nextOf _ _ _ _ _ _ (by first | assumption | exact hset_self _ _ _) _ _ (by omega)) ?_
        refine V.iload dX6_goalOf_184 rfl ?_
        refine V.iconst (v := nI 2) dX6_goalOf_186 (by decide) ?_
        refine V.idiv dX6_goalOf_187 (by decide) ?_
        refine V.callSv [_, _, _, _] dX6_goalOf_188 lk_X6_197 rfl (Nat.le_of_ble_eq_true rfl) (Nat.le_of_ble_eq_true rfl) (s6_isMinded _ _ _ _ _ _ (by first | assumption | exact hset_self _ _ _) _ _ _ (by omega) _ (by assumption) (by assumption)) ?_
        refine V.if_eqB (tgt := 199) dX6_goalOf_191 (by decide) (fun c191 => ?_) (fun c191 => ?_)
        · refine V.iload dX6_goalOf_199 rfl ?_
          exact V.iretP (by exact dX6_goalOf_201) rfl (by (try simp only [← Int32.not_le, Classical.not_not] at *); simp only [goal, hk, c19, hs, c170, c191, clampI (show e0 < 2147483648 by omega), ← Int32.not_le, (show ¬ nI 3 = nI 1 by decide), (show ¬ nI 3 = nI 5 by decide), (show ¬ nI 3 = nI 7 by decide), (show ¬ nI 3 = nI 2 by decide), (show ¬ nI 3 = nI 6 by decide), not_true_eq_false, not_false_eq_true, if_true, if_false, decide_true, decide_false, Bool.and_true, Bool.and_false, Bool.true_and, Bool.false_and, Bool.or_true, Bool.or_false, Bool.true_or, Bool.false_or, Bool.not_true, Bool.not_false, and_true, and_false, true_and, false_and, or_true, or_false, true_or, false_or, bIt, bIf, Bool.false_eq_true, reduceCtorEq]) rfl
        · refine V.iload dX6_goalOf_194 rfl ?_
          refine V.goto (tgt := 201) dX6_goalOf_196 (by decide) ?_
          exact V.iretP (by exact dX6_goalOf_201) rfl (by (try simp only [← Int32.not_le, Classical.not_not] at *); simp only [goal, hk, c19, hs, c170, c191, clampI (show e0 < 2147483648 by omega), ← Int32.not_le, (show ¬ nI 3 = nI 1 by decide), (show ¬ nI 3 = nI 5 by decide), (show ¬ nI 3 = nI 7 by decide), (show ¬ nI 3 = nI 2 by decide), (show ¬ nI 3 = nI 6 by decide), not_true_eq_false, not_false_eq_true, if_true, if_false, decide_true, decide_false, Bool.and_true, Bool.and_false, Bool.true_and, Bool.false_and, Bool.or_true, Bool.or_false, Bool.true_or, Bool.false_or, Bool.not_true, Bool.not_false, and_true, and_false, true_and, false_and, or_true, or_false, true_or, false_or, bIt, bIf, Bool.false_eq_true, reduceCtorEq]) rfl
      · refine V.iload_n dX6_goalOf_173 rfl ?_
        exact V.iretP (by exact dX6_goalOf_174) rfl (by (try simp only [← Int32.not_le, Classical.not_not] at *); simp only [goal, hk, c19, hs, c170, clampI (show e0 < 2147483648 by omega), ← Int32.not_le, (show ¬ nI 3 = nI 1 by decide), (show ¬ nI 3 = nI 5 by decide), (show ¬ nI 3 = nI 7 by decide), (show ¬ nI 3 = nI 2 by decide), (show ¬ nI 3 = nI 6 by decide), not_true_eq_false, not_false_eq_true, if_true, if_false, decide_true, decide_false, Bool.and_true, Bool.and_false, Bool.true_and, Bool.false_and, Bool.or_true, Bool.or_false, Bool.true_or, Bool.false_or, Bool.not_true, Bool.not_false, and_true, and_false, true_and, false_and, or_true, or_false, true_or, false_or, bIt, bIf, Bool.false_eq_true, reduceCtorEq]) rfl
    · refine V.iload dX6_goalOf_60 rfl ?_
      refine V.tableIn (off := 187) (tgt := 249) dX6_goalOf_62 (by decide) (by decide) (by decide) (by decide) ?_
      refine V.iload dX6_goalOf_249 rfl ?_
      exact V.iretP (by exact dX6_goalOf_251) rfl (by (try simp only [← Int32.not_le, Classical.not_not] at *); simp only [goal, hk, c19, hs, clampI (show e0 < 2147483648 by omega), ← Int32.not_le, (show ¬ nI 4 = nI 1 by decide), (show ¬ nI 4 = nI 5 by decide), (show ¬ nI 4 = nI 7 by decide), (show ¬ nI 4 = nI 3 by decide), (show ¬ nI 4 = nI 2 by decide), (show ¬ nI 4 = nI 6 by decide), not_true_eq_false, not_false_eq_true, if_true, if_false, decide_true, decide_false, Bool.and_true, Bool.and_false, Bool.true_and, Bool.false_and, Bool.or_true, Bool.or_false, Bool.true_or, Bool.false_or, Bool.not_true, Bool.not_false, and_true, and_false, true_and, false_and, or_true, or_false, true_or, false_or, bIt, bIf, Bool.false_eq_true, reduceCtorEq]) rfl
    · refine V.iload dX6_goalOf_60 rfl ?_
      refine V.tableIn (off := 42) (tgt := 104) dX6_goalOf_62 (by decide) (by decide) (by decide) (by decide) ?_
      refine V.aload_n dX6_goalOf_104 rfl ?_
      refine V.iload_n dX6_goalOf_105 rfl ?_
      refine V.callSv [_, _] dX6_goalOf_106 lk_X6_194 rfl (Nat.le_of_ble_eq_true rfl) (Nat.le_of_ble_eq_true rfl) (s6_preyOf _ _ _ _ _ _ (by first | assumption | exact hset_self _ _ _) _ (by omega) _ (by assumption) (by assumption) _ _ (by assumption) (by assumption) (by assumption) (by assumption) (by assumption)) ?_
      refine V.ist8 dX6_goalOf_109 (by decide) rfl ?_
      refine V.iload dX6_goalOf_111 rfl ?_
      refine V.if_lt (tgt := 124) dX6_goalOf_113 (by decide) (fun c113 => ?_) (fun c113 => ?_)
      · refine V.iload dX6_goalOf_124 rfl ?_
        refine V.iconst (v := nI 1) dX6_goalOf_126 (by decide) ?_
        refine V.icmp_ne (tgt := 134) dX6_goalOf_127 (by decide) (fun _ => ?_) (fun q => absurd q (by decide))
        refine V.iload dX6_goalOf_134 rfl ?_
        refine V.iconst (v := nI 5) dX6_goalOf_136 (by decide) ?_
        refine V.icmp_ne (tgt := 147) dX6_goalOf_137 (by decide) (fun q => absurd q (by decide)) (fun _ => ?_)
        refine V.iload_n dX6_goalOf_140 rfl ?_
        refine V.callSv [_] dX6_goalOf_141 lk_X6_75 rfl (Nat.le_of_ble_eq_true rfl) (Nat.le_of_ble_eq_true rfl) (s6_gaolOf _ _ _ _ _) ?_
        refine V.goto (tgt := 160) dX6_goalOf_144 (by decide) ?_
        exact V.iretP (by exact dX6_goalOf_160) rfl (by (try simp only [← Int32.not_le, Classical.not_not] at *); simp only [goal, hk, c19, hs, c113, clampI (show e0 < 2147483648 by omega), ← Int32.not_le, (show ¬ nI 5 = nI 1 by decide), (show ¬ nI 5 = nI 7 by decide), (show ¬ nI 5 = nI 3 by decide), (show ¬ nI 5 = nI 2 by decide), (show ¬ nI 5 = nI 6 by decide), not_true_eq_false, not_false_eq_true, if_true, if_false, decide_true, decide_false, Bool.and_true, Bool.and_false, Bool.true_and, Bool.false_and, Bool.or_true, Bool.or_false, Bool.true_or, Bool.false_or, Bool.not_true, Bool.not_false, and_true, and_false, true_and, false_and, or_true, or_false, true_or, false_or, bIt, bIf, Bool.false_eq_true, reduceCtorEq]) rfl
      · refine V.aload_n dX6_goalOf_116 rfl ?_
        refine V.iload dX6_goalOf_117 rfl ?_
        refine V.iconst (v := nI 4) dX6_goalOf_119 (by decide) ?_
        refine V.callSv [_, _, _] dX6_goalOf_120 lk_X6_82 rfl (Nat.le_of_ble_eq_true rfl) (Nat.le_of_ble_eq_true rfl) (s6_getI _ _ _ _ _ _ (by first | assumption | exact hset_self _ _ _) _ _ (prey_pos (by omega) c113) (by omega)) ?_
        exact V.iretP (by exact dX6_goalOf_123) rfl (by (try simp only [← Int32.not_le, Classical.not_not] at *); simp only [goal, hk, c19, hs, c113, clampI (show e0 < 2147483648 by omega), ← Int32.not_le, (show ¬ nI 5 = nI 1 by decide), (show ¬ nI 5 = nI 7 by decide), (show ¬ nI 5 = nI 3 by decide), (show ¬ nI 5 = nI 2 by decide), (show ¬ nI 5 = nI 6 by decide), not_true_eq_false, not_false_eq_true, if_true, if_false, decide_true, decide_false, Bool.and_true, Bool.and_false, Bool.true_and, Bool.false_and, Bool.or_true, Bool.or_false, Bool.true_or, Bool.false_or, Bool.not_true, Bool.not_false, and_true, and_false, true_and, false_and, or_true, or_false, true_or, false_or, bIt, bIf, Bool.false_eq_true, reduceCtorEq]) rfl
    · refine V.iload dX6_goalOf_60 rfl ?_
      refine V.tableIn (off := 167) (tgt := 229) dX6_goalOf_62 (by decide) (by decide) (by decide) (by decide) ?_
      refine V.aload_n dX6_goalOf_229 rfl ?_
      refine V.iload_n dX6_goalOf_230 rfl ?_
      refine V.callSv [_, _] dX6_goalOf_231 lk_X6_174 rfl (Nat.le_of_ble_eq_true rfl) (Nat.le_of_ble_eq_true rfl) (s6_heldOf _ _ _ _ _ _ (by first | assumption | exact hset_self _ _ _) _ _ (by assumption) (by assumption)) ?_
      refine V.if_le (tgt := 246) dX6_goalOf_234 (by decide) (fun c234 => ?_) (fun c234 => ?_)
      · refine V.iload dX6_goalOf_246 rfl ?_
        exact V.iretP (by exact dX6_goalOf_248) rfl (by (try simp only [← Int32.not_le, Classical.not_not] at *); simp only [goal, hk, c19, hs, c234, clampI (show e0 < 2147483648 by omega), ← Int32.not_le, (show ¬ nI 6 = nI 1 by decide), (show ¬ nI 6 = nI 5 by decide), (show ¬ nI 6 = nI 7 by decide), (show ¬ nI 6 = nI 3 by decide), (show ¬ nI 6 = nI 2 by decide), not_true_eq_false, not_false_eq_true, if_true, if_false, decide_true, decide_false, Bool.and_true, Bool.and_false, Bool.true_and, Bool.false_and, Bool.or_true, Bool.or_false, Bool.true_or, Bool.false_or, Bool.not_true, Bool.not_false, and_true, and_false, true_and, false_and, or_true, or_false, true_or, false_or, bIt, bIf, Bool.false_eq_true, reduceCtorEq]) rfl
      · refine V.iconst (v := nI 1) dX6_goalOf_237 (by decide) ?_
        refine V.iload_n dX6_goalOf_238 rfl ?_
        refine V.isub dX6_goalOf_239 ?_
        refine V.callSv [_] dX6_goalOf_240 lk_X6_75 rfl (Nat.le_of_ble_eq_true rfl) (Nat.le_of_ble_eq_true rfl) (s6_gaolOf _ _ _ _ _) ?_
        refine V.goto (tgt := 248) dX6_goalOf_243 (by decide) ?_
        exact V.iretP (by exact dX6_goalOf_248) rfl (by (try simp only [← Int32.not_le, Classical.not_not] at *); simp only [goal, hk, c19, hs, c234, clampI (show e0 < 2147483648 by omega), ← Int32.not_le, (show ¬ nI 6 = nI 1 by decide), (show ¬ nI 6 = nI 5 by decide), (show ¬ nI 6 = nI 7 by decide), (show ¬ nI 6 = nI 3 by decide), (show ¬ nI 6 = nI 2 by decide), not_true_eq_false, not_false_eq_true, if_true, if_false, decide_true, decide_false, Bool.and_true, Bool.and_false, Bool.true_and, Bool.false_and, Bool.or_true, Bool.or_false, Bool.true_or, Bool.false_or, Bool.not_true, Bool.not_false, and_true, and_false, true_and, false_and, or_true, or_false, true_or, false_or, bIt, bIf, Bool.false_eq_true, reduceCtorEq]) rfl
    · refine V.iload dX6_goalOf_60 rfl ?_
      refine V.tableIn (off := 42) (tgt := 104) dX6_goalOf_62 (by decide) (by decide) (by decide) (by decide) ?_
      refine V.aload_n dX6_goalOf_104 rfl ?_
      refine V.iload_n dX6_goalOf_105 rfl ?_
      refine V.callSv [_, _] dX6_goalOf_106 lk_X6_194 rfl (Nat.le_of_ble_eq_true rfl) (Nat.le_of_ble_eq_true rfl) (s6_preyOf _ _ _ _ _ _ (by first | assumption | exact hset_self _ _ _) _ (by omega) _ (by assumption) (by assumption) _ _ (by assumption) (by assumption) (by assumption) (by assumption) (by assumption)) ?_
      refine V.ist8 dX6_goalOf_109 (by decide) rfl ?_
      refine V.iload dX6_goalOf_111 rfl ?_
      refine V.if_lt (tgt := 124) dX6_goalOf_113 (by decide) (fun c113 => ?_) (fun c113 => ?_)
      · refine V.iload dX6_goalOf_124 rfl ?_
        refine V.iconst (v := nI 1) dX6_goalOf_126 (by decide) ?_
        refine V.icmp_ne (tgt := 134) dX6_goalOf_127 (by decide) (fun _ => ?_) (fun q => absurd q (by decide))
        refine V.iload dX6_goalOf_134 rfl ?_
        refine V.iconst (v := nI 5) dX6_goalOf_136 (by decide) ?_
        refine V.icmp_ne (tgt := 147) dX6_goalOf_137 (by decide) (fun _ => ?_) (fun q => absurd q (by decide))
        refine V.bipush (v := nI 36) dX6_goalOf_147 (by decide) ?_
        refine V.iload_n dX6_goalOf_149 rfl ?_
        refine V.if_ne (tgt := 157) dX6_goalOf_150 (by decide) (fun c150 => ?_) (fun c150 => ?_)
        · refine V.bipush (v := nI 8) dX6_goalOf_157 (by decide) ?_
          refine V.iaddN dX6_goalOf_159 ?_
          exact V.iretP (by exact dX6_goalOf_160) rfl (by (try simp only [← Int32.not_le, Classical.not_not] at *); simp only [goal, hk, c19, hs, c113, c150, clampI (show e0 < 2147483648 by omega), ← Int32.not_le, (show ¬ nI 7 = nI 1 by decide), (show ¬ nI 7 = nI 5 by decide), (show ¬ nI 7 = nI 3 by decide), (show ¬ nI 7 = nI 2 by decide), (show ¬ nI 7 = nI 6 by decide), not_true_eq_false, not_false_eq_true, if_true, if_false, decide_true, decide_false, Bool.and_true, Bool.and_false, Bool.true_and, Bool.false_and, Bool.or_true, Bool.or_false, Bool.true_or, Bool.false_or, Bool.not_true, Bool.not_false, and_true, and_false, true_and, false_and, or_true, or_false, true_or, false_or, bIt, bIf, Bool.false_eq_true, reduceCtorEq]) rfl
        · refine V.iconst (v := nI 3) dX6_goalOf_153 (by decide) ?_
          refine V.goto (tgt := 159) dX6_goalOf_154 (by decide) ?_
          refine V.iaddN dX6_goalOf_159 ?_
          exact V.iretP (by exact dX6_goalOf_160) rfl (by (try simp only [← Int32.not_le, Classical.not_not] at *); simp only [goal, hk, c19, hs, c113, eq_true c150, clampI (show e0 < 2147483648 by omega), ← Int32.not_le, (show ¬ nI 7 = nI 1 by decide), (show ¬ nI 7 = nI 5 by decide), (show ¬ nI 7 = nI 3 by decide), (show ¬ nI 7 = nI 2 by decide), (show ¬ nI 7 = nI 6 by decide), not_true_eq_false, not_false_eq_true, if_true, if_false, decide_true, decide_false, Bool.and_true, Bool.and_false, Bool.true_and, Bool.false_and, Bool.or_true, Bool.or_false, Bool.true_or, Bool.false_or, Bool.not_true, Bool.not_false, and_true, and_false, true_and, false_and, or_true, or_false, true_or, false_or, bIt, bIf, Bool.false_eq_true, reduceCtorEq]) rfl
      · refine V.aload_n dX6_goalOf_116 rfl ?_
        refine V.iload dX6_goalOf_117 rfl ?_
        refine V.iconst (v := nI 4) dX6_goalOf_119 (by decide) ?_
        refine V.callSv [_, _, _] dX6_goalOf_120 lk_X6_82 rfl (Nat.le_of_ble_eq_true rfl) (Nat.le_of_ble_eq_true rfl) (s6_getI _ _ _ _ _ _ (by first | assumption | exact hset_self _ _ _) _ _ (prey_pos (by omega) c113) (by omega)) ?_
        exact V.iretP (by exact dX6_goalOf_123) rfl (by (try simp only [← Int32.not_le, Classical.not_not] at *); simp only [goal, hk, c19, hs, c113, clampI (show e0 < 2147483648 by omega), ← Int32.not_le, (show ¬ nI 7 = nI 1 by decide), (show ¬ nI 7 = nI 5 by decide), (show ¬ nI 7 = nI 3 by decide), (show ¬ nI 7 = nI 2 by decide), (show ¬ nI 7 = nI 6 by decide), not_true_eq_false, not_false_eq_true, if_true, if_false, decide_true, decide_false, Bool.and_true, Bool.and_false, Bool.true_and, Bool.false_and, Bool.or_true, Bool.or_false, Bool.true_or, Bool.false_or, Bool.not_true, Bool.not_false, and_true, and_false, true_and, false_and, or_true, or_false, true_or, false_or, bIt, bIf, Bool.false_eq_true, reduceCtorEq]) rfl
  · refine V.iload_n dX6_goalOf_22 rfl ?_
    exact V.iretP (by exact dX6_goalOf_23) rfl (by simp only [goal, c19, if_true]) rfl
