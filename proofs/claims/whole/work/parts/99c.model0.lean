/-- where the reference has been made -/
def By (h : MH) : Option Value → MH → Nat → Prop := fun r h1 n1 => r = none ∧ n1 = 93 ∧ ModAt h1 KS false KI0 S00 ∧ ∀ p, p < 78 → h1 p = h p
theorem KS_eq : bgn (upd (upd (upd (upd (fun _ => 0) 84 (nI 1)) 86 (nI 100)) 89 (nI 200)) 95 (nI 1)) 0 (nI 1) = KS := by
  have e0 : ∀ j, j ≠ 95 → upd (upd (upd (upd (fun _ => 0) 84 (nI 1)) 86 (nI 100)) 89 (nI 200)) 95 (nI 1) j = K00 j := by
    intro j hj
    by_cases h1 : j = 84
    · subst h1; decide
    by_cases h2 : j = 86
    · subst h2; decide
    by_cases h3 : j = 89
    · subst h3; decide
    rw [pk_un (by omega), pk_un (by omega), pk_un (by omega), pk_un (by omega), K00_z h1 h2 h3]
    rfl
  funext j
  unfold KS bgn bgS
  by_cases h95 : j = 95
  · subst h95; rfl
  · have e1 : bgI (upd (upd (upd (upd (fun _ => 0) 84 (nI 1)) 86 (nI 100)) 89 (nI 200)) 95 (nI 1)) 0 j = bgI K00 0 j := by
      rw [bgI, bgI, if_neg (by omega), if_neg (by omega)]
      exact e0 j h95
    simp only [e1]
set_option maxRecDepth 20000 in
set_option maxHeartbeats 4000000 in
theorem s6_init_2 (l : Launch) (d : Nat) (g h : MH) (e78 : g 78 = some (.inr (6, moF false 0 0 0 0 0))) (e79 : g 79 = some (ia 184 (fun _ => 0))) (e80 : g 80 = some (ia 184 (fun _ => 0))) (e81 : g 81 = some (ia 184 (fun _ => 0))) (e82 : g 82 = some (ia 184 (fun _ => 0))) (e83 : g 83 = some (ia 8 (fun _ => 0))) (e84 : g 84 = some (ia 8 (fun _ => 0))) (e85 : g 85 = some (ia 8 (fun _ => 0))) (e86 : g 86 = some (ia 800 (fun _ => 0))) (e87 : g 87 = some (ia 8 (fun _ => 0))) (e88 : g 88 = some (ia 8 (fun _ => 0))) (e89 : g 89 = some (ia 6 (fun _ => 0))) (e90 : g 90 = some (ia 10 (fun _ => 0))) (e91 : g 91 = some (ia 84 (fun _ => 0))) (e92 : g 92 = some (ia 84 (fun _ => 0))) (hlo : ∀ p, p < 78 → g p = h p) : V l mX6_init (d + 2) 121 [some (.ref 78)] [] g 93 0 0 (By h) := by
  refine V.aload_n dX6_init_121 rfl ?_
  refine V.getf dX6_init_122 fl_X6_9 e78 rfl ?_
  refine V.bipush (v := nI 84) dX6_init_125 (by decide) ?_
  refine V.iconst (v := nI 1) dX6_init_127 (by decide) ?_
  refine V.iastN dX6_init_128 e79 (by omega) (by decide) ?_
  refine V.aload_n dX6_init_129 rfl ?_
  refine V.getf dX6_init_130 fl_X6_9 (o_ne e78 (by omega)) rfl ?_
  refine V.bipush (v := nI 86) dX6_init_133 (by decide) ?_
  refine V.bipush (v := nI 100) dX6_init_135 (by decide) ?_
  refine V.iastN dX6_init_137 (hset_self _ _ _) (by omega) (by decide) ?_
  rw [hset_hset]
  refine V.aload_n dX6_init_138 rfl ?_
  refine V.getf dX6_init_139 fl_X6_9 (o_ne e78 (by omega)) rfl ?_
  refine V.bipush (v := nI 89) dX6_init_142 (by decide) ?_
  refine V.sipush (v := nI 200) dX6_init_144 (by decide) ?_
  refine V.iastN dX6_init_147 (hset_self _ _ _) (by omega) (by decide) ?_
  rw [hset_hset]
  refine V.aload_n dX6_init_148 rfl ?_
  refine V.getf dX6_init_149 fl_X6_9 (o_ne e78 (by omega)) rfl ?_
  refine V.bipush (v := nI 95) dX6_init_152 (by decide) ?_
  refine V.iconst (v := nI 1) dX6_init_154 (by decide) ?_
  refine V.iastN dX6_init_155 (hset_self _ _ _) (by omega) (by decide) ?_
  rw [hset_hset]
  refine V.aload_n dX6_init_156 rfl ?_
  refine V.getf dX6_init_157 fl_X6_9 (o_ne e78 (by omega)) rfl ?_
  refine V.callSu [_] dX6_init_160 lk_X6_52 rfl (Nat.le_of_ble_eq_true rfl) (Nat.le_of_ble_eq_true rfl) (s6_begins _ _ _ _ _ _ (hset_self _ _ _) 0 (by decide) (by omega) (fun p hp => by omega)) ?_
  rw [hset_hset, show upd (upd (upd (upd (fun _ => 0) 84 (nI 1)) 86 (nI 100)) 89 (nI 200)) 95 (nI 1) 95 = nI 1 by decide, KS_eq]
  refine V.vret (by exact dX6_init_163) rfl ⟨rfl, rfl, ⟨⟨0, 0, 0, 0, 0, o_ne e78 (by omega)⟩, hset_self _ _ _, o_ne e80 (by omega), ⟨_, o_ne e81 (by omega)⟩, ⟨_, o_ne e82 (by omega)⟩, o_ne e83 (by omega), o_ne e84 (by omega), o_ne e85 (by omega), o_ne e86 (by omega), o_ne e87 (by omega), o_ne e88 (by omega), ⟨_, o_ne e89 (by omega)⟩, ⟨_, o_ne e90 (by omega)⟩, ⟨_, o_ne e91 (by omega)⟩, ⟨_, o_ne e92 (by omega)⟩⟩, fun p hp => by rw [hset_ne _ _ (by omega)]; exact hlo p hp⟩
set_option maxRecDepth 20000 in
set_option maxHeartbeats 4000000 in
theorem s6_init (l : Launch) (d : Nat) (h : MH) (h78 : h 78 = some (.inr (6, [.null, .null, .null, .null, .null, .null, .null, .null, .null, .null, .int 0, .int 0, .int 0, .int 0, .int 0, .int 0, .null, .null, .null, .null]))) : Sp l mX6_init (d + 2) [.ref 78] h 79 14 1760 (By h) := by
  show V _ _ _ _ [some (.ref 78)] _ _ _ _ _ _
  refine V.aload_n dX6_init_0 rfl ?_
  refine V.objInit dX6_init_1 wo_X6_1 oi_1 oi_2 (by omega) (Nat.le_of_ble_eq_true rfl) ?_
  refine V.aload_n dX6_init_4 rfl ?_
  refine V.sipush (v := nI 184) dX6_init_5 (by decide) ?_
  refine V.newI (c := 13) (z := 1576) (N := 184) dX6_init_8 w_ac_int (nI_pos (by omega)) (nI_clamp (by omega)) (by omega) (by omega) ?_
  change V _ _ _ _ _ _ _ 80 _ _ _
  refine V.putF dX6_init_10 rfl ff_X6_9 (o_ne h78 (by omega)) (Nat.le_of_ble_eq_true rfl) (fun _ => ⟨rfl, rfl⟩) ?_
  change V _ _ _ _ _ _ (hset _ 78 (.inr (6, [.ref 79, .null, .null, .null, .null, .null, .null, .null, .null, .null, .int 0, .int 0, .int 0, .int 0, .int 0, .int 0, .null, .null, .null, .null]))) _ _ _ _
  refine V.aload_n dX6_init_13 rfl ?_
  refine V.sipush (v := nI 184) dX6_init_14 (by decide) ?_
  refine V.newI (c := 12) (z := 1392) (N := 184) dX6_init_17 w_ac_int (nI_pos (by omega)) (nI_clamp (by omega)) (by omega) (by omega) ?_
  change V _ _ _ _ _ _ _ 81 _ _ _
  refine V.putF dX6_init_19 rfl ff_X6_13 (o_ne (hset_self _ _ _) (by omega)) (Nat.le_of_ble_eq_true rfl) (fun _ => ⟨rfl, rfl⟩) ?_
  change V _ _ _ _ _ _ (hset _ 78 (.inr (6, [.ref 79, .ref 80, .null, .null, .null, .null, .null, .null, .null, .null, .int 0, .int 0, .int 0, .int 0, .int 0, .int 0, .null, .null, .null, .null]))) _ _ _ _
  refine V.aload_n dX6_init_22 rfl ?_
  refine V.sipush (v := nI 184) dX6_init_23 (by decide) ?_
  refine V.newI (c := 11) (z := 1208) (N := 184) dX6_init_26 w_ac_int (nI_pos (by omega)) (nI_clamp (by omega)) (by omega) (by omega) ?_
  change V _ _ _ _ _ _ _ 82 _ _ _
  refine V.putF dX6_init_28 rfl ff_X6_16 (o_ne (hset_self _ _ _) (by omega)) (Nat.le_of_ble_eq_true rfl) (fun _ => ⟨rfl, rfl⟩) ?_
  change V _ _ _ _ _ _ (hset _ 78 (.inr (6, [.ref 79, .ref 80, .ref 81, .null, .null, .null, .null, .null, .null, .null, .int 0, .int 0, .int 0, .int 0, .int 0, .int 0, .null, .null, .null, .null]))) _ _ _ _
  refine V.aload_n dX6_init_31 rfl ?_
  refine V.sipush (v := nI 184) dX6_init_32 (by decide) ?_
  refine V.newI (c := 10) (z := 1024) (N := 184) dX6_init_35 w_ac_int (nI_pos (by omega)) (nI_clamp (by omega)) (by omega) (by omega) ?_
  change V _ _ _ _ _ _ _ 83 _ _ _
  refine V.putF dX6_init_37 rfl ff_X6_19 (o_ne (hset_self _ _ _) (by omega)) (Nat.le_of_ble_eq_true rfl) (fun _ => ⟨rfl, rfl⟩) ?_
  change V _ _ _ _ _ _ (hset _ 78 (.inr (6, [.ref 79, .ref 80, .ref 81, .ref 82, .null, .null, .null, .null, .null, .null, .int 0, .int 0, .int 0, .int 0, .int 0, .int 0, .null, .null, .null, .null]))) _ _ _ _
  refine V.aload_n dX6_init_40 rfl ?_
  refine V.bipush (v := nI 8) dX6_init_41 (by decide) ?_
  refine V.newI (c := 9) (z := 1016) (N := 8) dX6_init_43 w_ac_int (nI_pos (by omega)) (nI_clamp (by omega)) (by omega) (by omega) ?_
  change V _ _ _ _ _ _ _ 84 _ _ _
  refine V.putF dX6_init_45 rfl ff_X6_22 (o_ne (hset_self _ _ _) (by omega)) (Nat.le_of_ble_eq_true rfl) (fun _ => ⟨rfl, rfl⟩) ?_
  change V _ _ _ _ _ _ (hset _ 78 (.inr (6, [.ref 79, .ref 80, .ref 81, .ref 82, .ref 83, .null, .null, .null, .null, .null, .int 0, .int 0, .int 0, .int 0, .int 0, .int 0, .null, .null, .null, .null]))) _ _ _ _
  refine V.aload_n dX6_init_48 rfl ?_
  refine V.bipush (v := nI 8) dX6_init_49 (by decide) ?_
  refine V.newI (c := 8) (z := 1008) (N := 8) dX6_init_51 w_ac_int (nI_pos (by omega)) (nI_clamp (by omega)) (by omega) (by omega) ?_
  change V _ _ _ _ _ _ _ 85 _ _ _
  refine V.putF dX6_init_53 rfl ff_X6_25 (o_ne (hset_self _ _ _) (by omega)) (Nat.le_of_ble_eq_true rfl) (fun _ => ⟨rfl, rfl⟩) ?_
  change V _ _ _ _ _ _ (hset _ 78 (.inr (6, [.ref 79, .ref 80, .ref 81, .ref 82, .ref 83, .ref 84, .null, .null, .null, .null, .int 0, .int 0, .int 0, .int 0, .int 0, .int 0, .null, .null, .null, .null]))) _ _ _ _
  refine V.aload_n dX6_init_56 rfl ?_
  refine V.bipush (v := nI 8) dX6_init_57 (by decide) ?_
  refine V.newI (c := 7) (z := 1000) (N := 8) dX6_init_59 w_ac_int (nI_pos (by omega)) (nI_clamp (by omega)) (by omega) (by omega) ?_
  change V _ _ _ _ _ _ _ 86 _ _ _
  refine V.putF dX6_init_61 rfl ff_X6_28 (o_ne (hset_self _ _ _) (by omega)) (Nat.le_of_ble_eq_true rfl) (fun _ => ⟨rfl, rfl⟩) ?_
  change V _ _ _ _ _ _ (hset _ 78 (.inr (6, [.ref 79, .ref 80, .ref 81, .ref 82, .ref 83, .ref 84, .ref 85, .null, .null, .null, .int 0, .int 0, .int 0, .int 0, .int 0, .int 0, .null, .null, .null, .null]))) _ _ _ _
  refine V.aload_n dX6_init_64 rfl ?_
  refine V.sipush (v := nI 800) dX6_init_65 (by decide) ?_
  refine V.newI (c := 6) (z := 200) (N := 800) dX6_init_68 w_ac_int (nI_pos (by omega)) (nI_clamp (by omega)) (by omega) (by omega) ?_
  change V _ _ _ _ _ _ _ 87 _ _ _
  refine V.putF dX6_init_70 rfl ff_X6_31 (o_ne (hset_self _ _ _) (by omega)) (Nat.le_of_ble_eq_true rfl) (fun _ => ⟨rfl, rfl⟩) ?_
  change V _ _ _ _ _ _ (hset _ 78 (.inr (6, [.ref 79, .ref 80, .ref 81, .ref 82, .ref 83, .ref 84, .ref 85, .ref 86, .null, .null, .int 0, .int 0, .int 0, .int 0, .int 0, .int 0, .null, .null, .null, .null]))) _ _ _ _
  refine V.aload_n dX6_init_73 rfl ?_
  refine V.bipush (v := nI 8) dX6_init_74 (by decide) ?_
  refine V.newI (c := 5) (z := 192) (N := 8) dX6_init_76 w_ac_int (nI_pos (by omega)) (nI_clamp (by omega)) (by omega) (by omega) ?_
  change V _ _ _ _ _ _ _ 88 _ _ _
  refine V.putF dX6_init_78 rfl ff_X6_34 (o_ne (hset_self _ _ _) (by omega)) (Nat.le_of_ble_eq_true rfl) (fun _ => ⟨rfl, rfl⟩) ?_
  change V _ _ _ _ _ _ (hset _ 78 (.inr (6, [.ref 79, .ref 80, .ref 81, .ref 82, .ref 83, .ref 84, .ref 85, .ref 86, .ref 87, .null, .int 0, .int 0, .int 0, .int 0, .int 0, .int 0, .null, .null, .null, .null]))) _ _ _ _
  refine V.aload_n dX6_init_81 rfl ?_
  refine V.bipush (v := nI 8) dX6_init_82 (by decide) ?_
  refine V.newI (c := 4) (z := 184) (N := 8) dX6_init_84 w_ac_int (nI_pos (by omega)) (nI_clamp (by omega)) (by omega) (by omega) ?_
  change V _ _ _ _ _ _ _ 89 _ _ _
  refine V.putF dX6_init_86 rfl ff_X6_37 (o_ne (hset_self _ _ _) (by omega)) (Nat.le_of_ble_eq_true rfl) (fun _ => ⟨rfl, rfl⟩) ?_
  change V _ _ _ _ _ _ (hset _ 78 (.inr (6, [.ref 79, .ref 80, .ref 81, .ref 82, .ref 83, .ref 84, .ref 85, .ref 86, .ref 87, .ref 88, .int 0, .int 0, .int 0, .int 0, .int 0, .int 0, .null, .null, .null, .null]))) _ _ _ _
  refine V.aload_n dX6_init_89 rfl ?_
  refine V.bipush (v := nI 6) dX6_init_90 (by decide) ?_
  refine V.newI (c := 3) (z := 178) (N := 6) dX6_init_92 w_ac_int (nI_pos (by omega)) (nI_clamp (by omega)) (by omega) (by omega) ?_
  change V _ _ _ _ _ _ _ 90 _ _ _
  refine V.putF dX6_init_94 rfl ff_X6_40 (o_ne (hset_self _ _ _) (by omega)) (Nat.le_of_ble_eq_true rfl) (fun _ => ⟨rfl, rfl⟩) ?_
  change V _ _ _ _ _ _ (hset _ 78 (.inr (6, [.ref 79, .ref 80, .ref 81, .ref 82, .ref 83, .ref 84, .ref 85, .ref 86, .ref 87, .ref 88, .int 0, .int 0, .int 0, .int 0, .int 0, .int 0, .ref 89, .null, .null, .null]))) _ _ _ _
  refine V.aload_n dX6_init_97 rfl ?_
  refine V.bipush (v := nI 10) dX6_init_98 (by decide) ?_
  refine V.newI (c := 2) (z := 168) (N := 10) dX6_init_100 w_ac_int (nI_pos (by omega)) (nI_clamp (by omega)) (by omega) (by omega) ?_
  change V _ _ _ _ _ _ _ 91 _ _ _
  refine V.putF dX6_init_102 rfl ff_X6_43 (o_ne (hset_self _ _ _) (by omega)) (Nat.le_of_ble_eq_true rfl) (fun _ => ⟨rfl, rfl⟩) ?_
  change V _ _ _ _ _ _ (hset _ 78 (.inr (6, [.ref 79, .ref 80, .ref 81, .ref 82, .ref 83, .ref 84, .ref 85, .ref 86, .ref 87, .ref 88, .int 0, .int 0, .int 0, .int 0, .int 0, .int 0, .ref 89, .ref 90, .null, .null]))) _ _ _ _
  refine V.aload_n dX6_init_105 rfl ?_
  refine V.bipush (v := nI 84) dX6_init_106 (by decide) ?_
  refine V.newI (c := 1) (z := 84) (N := 84) dX6_init_108 w_ac_int (nI_pos (by omega)) (nI_clamp (by omega)) (by omega) (by omega) ?_
  change V _ _ _ _ _ _ _ 92 _ _ _
  refine V.putF dX6_init_110 rfl ff_X6_46 (o_ne (hset_self _ _ _) (by omega)) (Nat.le_of_ble_eq_true rfl) (fun _ => ⟨rfl, rfl⟩) ?_
  change V _ _ _ _ _ _ (hset _ 78 (.inr (6, [.ref 79, .ref 80, .ref 81, .ref 82, .ref 83, .ref 84, .ref 85, .ref 86, .ref 87, .ref 88, .int 0, .int 0, .int 0, .int 0, .int 0, .int 0, .ref 89, .ref 90, .ref 91, .null]))) _ _ _ _
  refine V.aload_n dX6_init_113 rfl ?_
  refine V.bipush (v := nI 84) dX6_init_114 (by decide) ?_
  refine V.newI (c := 0) (z := 0) (N := 84) dX6_init_116 w_ac_int (nI_pos (by omega)) (nI_clamp (by omega)) (by omega) (by omega) ?_
  change V _ _ _ _ _ _ _ 93 _ _ _
  refine V.putF dX6_init_118 rfl ff_X6_49 (o_ne (hset_self _ _ _) (by omega)) (Nat.le_of_ble_eq_true rfl) (fun _ => ⟨rfl, rfl⟩) ?_
  change V _ _ _ _ _ _ (hset _ 78 (.inr (6, [.ref 79, .ref 80, .ref 81, .ref 82, .ref 83, .ref 84, .ref 85, .ref 86, .ref 87, .ref 88, .int 0, .int 0, .int 0, .int 0, .int 0, .int 0, .ref 89, .ref 90, .ref 91, .ref 92]))) _ _ _ _
  refine s6_init_2 l d _ h ?_ ?_ ?_ ?_ ?_ ?_ ?_ ?_ ?_ ?_ ?_ ?_ ?_ ?_ ?_ ?_
  · exact (hset_self _ _ _)
  · exact (o_ne (o_ne (o_ne (o_ne (o_ne (o_ne (o_ne (o_ne (o_ne (o_ne (o_ne (o_ne (o_ne (o_ne (o_ne (o_ne (o_ne (o_ne (o_ne (o_ne (o_ne (o_ne (o_ne (o_ne (o_ne (o_ne (o_ne (hset_self _ _ _) (by omega)) (by omega)) (by omega)) (by omega)) (by omega)) (by omega)) (by omega)) (by omega)) (by omega)) (by omega)) (by omega)) (by omega)) (by omega)) (by omega)) (by omega)) (by omega)) (by omega)) (by omega)) (by omega)) (by omega)) (by omega)) (by omega)) (by omega)) (by omega)) (by omega)) (by omega)) (by omega))
  · exact (o_ne (o_ne (o_ne (o_ne (o_ne (o_ne (o_ne (o_ne (o_ne (o_ne (o_ne (o_ne (o_ne (o_ne (o_ne (o_ne (o_ne (o_ne (o_ne (o_ne (o_ne (o_ne (o_ne (o_ne (o_ne (hset_self _ _ _) (by omega)) (by omega)) (by omega)) (by omega)) (by omega)) (by omega)) (by omega)) (by omega)) (by omega)) (by omega)) (by omega)) (by omega)) (by omega)) (by omega)) (by omega)) (by omega)) (by omega)) (by omega)) (by omega)) (by omega)) (by omega)) (by omega)) (by omega)) (by omega)) (by omega))
  · exact (o_ne (o_ne (o_ne (o_ne (o_ne (o_ne (o_ne (o_ne (o_ne (o_ne (o_ne (o_ne (o_ne (o_ne (o_ne (o_ne (o_ne (o_ne (o_ne (o_ne (o_ne (o_ne (o_ne (hset_self _ _ _) (by omega)) (by omega)) (by omega)) (by omega)) (by omega)) (by omega)) (by omega)) (by omega)) (by omega)) (by omega)) (by omega)) (by omega)) (by omega)) (by omega)) (by omega)) (by omega)) (by omega)) (by omega)) (by omega)) (by omega)) (by omega)) (by omega)) (by omega))
  · exact (o_ne (o_ne (o_ne (o_ne (o_ne (o_ne (o_ne (o_ne (o_ne (o_ne (o_ne (o_ne (o_ne (o_ne (o_ne (o_ne (o_ne (o_ne (o_ne (o_ne (o_ne (hset_self _ _ _) (by omega)) (by omega)) (by omega)) (by omega)) (by omega)) (by omega)) (by omega)) (by omega)) (by omega)) (by omega)) (by omega)) (by omega)) (by omega)) (by omega)) (by omega)) (by omega)) (by omega)) (by omega)) (by omega)) (by omega)) (by omega))
  · exact (o_ne (o_ne (o_ne (o_ne (o_ne (o_ne (o_ne (o_ne (o_ne (o_ne (o_ne (o_ne (o_ne (o_ne (o_ne (o_ne (o_ne (o_ne (o_ne (hset_self _ _ _) (by omega)) (by omega)) (by omega)) (by omega)) (by omega)) (by omega)) (by omega)) (by omega)) (by omega)) (by omega)) (by omega)) (by omega)) (by omega)) (by omega)) (by omega)) (by omega)) (by omega)) (by omega)) (by omega))
  · exact (o_ne (o_ne (o_ne (o_ne (o_ne (o_ne (o_ne (o_ne (o_ne (o_ne (o_ne (o_ne (o_ne (o_ne (o_ne (o_ne (o_ne (hset_self _ _ _) (by omega)) (by omega)) (by omega)) (by omega)) (by omega)) (by omega)) (by omega)) (by omega)) (by omega)) (by omega)) (by omega)) (by omega)) (by omega)) (by omega)) (by omega)) (by omega)) (by omega))
  · exact (o_ne (o_ne (o_ne (o_ne (o_ne (o_ne (o_ne (o_ne (o_ne (o_ne (o_ne (o_ne (o_ne (o_ne (o_ne (hset_self _ _ _) (by omega)) (by omega)) (by omega)) (by omega)) (by omega)) (by omega)) (by omega)) (by omega)) (by omega)) (by omega)) (by omega)) (by omega)) (by omega)) (by omega)) (by omega))
  · exact (o_ne (o_ne (o_ne (o_ne (o_ne (o_ne (o_ne (o_ne (o_ne (o_ne (o_ne (o_ne (o_ne (hset_self _ _ _) (by omega)) (by omega)) (by omega)) (by omega)) (by omega)) (by omega)) (by omega)) (by omega)) (by omega)) (by omega)) (by omega)) (by omega)) (by omega))
  · exact (o_ne (o_ne (o_ne (o_ne (o_ne (o_ne (o_ne (o_ne (o_ne (o_ne (o_ne (hset_self _ _ _) (by omega)) (by omega)) (by omega)) (by omega)) (by omega)) (by omega)) (by omega)) (by omega)) (by omega)) (by omega)) (by omega))
  · exact (o_ne (o_ne (o_ne (o_ne (o_ne (o_ne (o_ne (o_ne (o_ne (hset_self _ _ _) (by omega)) (by omega)) (by omega)) (by omega)) (by omega)) (by omega)) (by omega)) (by omega)) (by omega))
  · exact (o_ne (o_ne (o_ne (o_ne (o_ne (o_ne (o_ne (hset_self _ _ _) (by omega)) (by omega)) (by omega)) (by omega)) (by omega)) (by omega)) (by omega))
  · exact (o_ne (o_ne (o_ne (o_ne (o_ne (hset_self _ _ _) (by omega)) (by omega)) (by omega)) (by omega)) (by omega))
  · exact (o_ne (o_ne (o_ne (hset_self _ _ _) (by omega)) (by omega)) (by omega))
  · exact (o_ne (hset_self _ _ _) (by omega))
  · intro p hp
    (repeat rw [hset_ne _ _ (by omega)])
theorem KS_z {j : Nat} (h : 100 ≤ j) : KS j = nI 0 := by
  unfold KS bgn bgS
  simp only [if_neg (show ¬ j = 91 by omega), if_neg (show ¬ j = 92 by omega), if_neg (show ¬ j = 93 by omega), if_neg (show ¬ j = 94 by omega), if_neg (show ¬ j = 95 by omega), if_neg (show ¬ j = 96 by omega), if_neg (show ¬ j = 97 by omega), if_neg (show ¬ j = 98 by omega), if_neg (show ¬ j = 99 by omega)]
  rw [bgI, if_neg (by omega), K00_z (by omega) (by omega) (by omega)]
theorem TI_0 : TI KS 0 := by
  refine ⟨⟨⟨by decide, by omega, fun p hp => by omega, fun e he => ⟨0, by omega, KS_z (by omega)⟩, fun p hp => by omega, fun p hp => by omega, fun e i he hi => ⟨0, by omega, KS_z (by omega)⟩, fun p hp => by omega⟩, ⟨⟨fun e he => ?_, fun p e hp => by omega⟩, ⟨fun e he => Or.inl ?_, Or.inl (by decide)⟩, fun p e hp => by omega, Or.inl (by decide)⟩⟩, fun p hp => ?_, ⟨200, by omega, by omega, by decide⟩, ⟨0, by omega, by decide⟩, Or.inr (Or.inr (by decide)), fun p hp => by omega⟩
  · rcases (show e = 0 ∨ e = 1 by omega) with rfl | rfl
    · exact ⟨37, by omega, by decide⟩
    · exact ⟨46, by omega, by decide⟩
  · rcases (show e = 0 ∨ e = 1 by omega) with rfl | rfl <;> decide
  · rw [show gP KS p 5 = nI 0 from KS_z (by omega)]
    decide
theorem INV_0 : INV KS false KI0 S00 := ⟨⟨0, TI_0⟩, (fun e => by cases e), fun i hi => ⟨Or.inl rfl, fun e => absurd (show nI 0 = nI 1 from e) (by decide), fun e => absurd (show nI 0 = nI 2 from e) (by decide)⟩⟩
