def bl_L_element : List Nat := [45, 3, 42, 27, 28, 182, 0, 7, 80, 167, 0, 11, 58, 4, 4, 172, 58, 4, 5, 172, 3, 172]
theorem bp_L_element : cL_element.data.toList.map UInt8.toNat = bl_L_element := by decide +kernel
theorem b_L_element {k : Nat} (p : Nat) (h : bl_L_element[p]? = some k) : bAt cL_element p = some k := bAt_of bp_L_element h
theorem dL_element_0 : decode cL_element 0 = .ok (.aload_n 3, 1) := dc_45 (b_L_element 0 rfl)
theorem dL_element_1 : decode cL_element 1 = .ok (.iconst 0, 1) := dc_3 (b_L_element 1 rfl)
theorem dL_element_2 : decode cL_element 2 = .ok (.aload_n 0, 1) := dc_42 (b_L_element 2 rfl)
theorem dL_element_3 : decode cL_element 3 = .ok (.iload_n 1, 1) := dc_27 (b_L_element 3 rfl)
theorem dL_element_4 : decode cL_element 4 = .ok (.iload_n 2, 1) := dc_28 (b_L_element 4 rfl)
theorem dL_element_5 : decode cL_element 5 = .ok (.invokevirtual 7, 3) := dc_182 (b_L_element 6 rfl) (b_L_element 7 rfl) rfl (b_L_element 5 rfl)
theorem dL_element_8 : decode cL_element 8 = .ok (.lastore, 1) := dc_80 (b_L_element 8 rfl)
theorem dL_element_9 : decode cL_element 9 = .ok (.goto 11, 3) := dc_167 (b_L_element 10 rfl) (b_L_element 11 rfl) rfl (b_L_element 9 rfl)
theorem dL_element_12 : decode cL_element 12 = .ok (.astore 4, 2) := dc_58 (b_L_element 13 rfl) (b_L_element 12 rfl)
theorem dL_element_14 : decode cL_element 14 = .ok (.iconst 1, 1) := dc_4 (b_L_element 14 rfl)
theorem dL_element_15 : decode cL_element 15 = .ok (.ireturn, 1) := dc_172 (b_L_element 15 rfl)
theorem dL_element_16 : decode cL_element 16 = .ok (.astore 4, 2) := dc_58 (b_L_element 17 rfl) (b_L_element 16 rfl)
theorem dL_element_18 : decode cL_element 18 = .ok (.iconst 2, 1) := dc_5 (b_L_element 18 rfl)
theorem dL_element_19 : decode cL_element 19 = .ok (.ireturn, 1) := dc_172 (b_L_element 19 rfl)
theorem dL_element_20 : decode cL_element 20 = .ok (.iconst 0, 1) := dc_3 (b_L_element 20 rfl)
theorem dL_element_21 : decode cL_element 21 = .ok (.ireturn, 1) := dc_172 (b_L_element 21 rfl)
def bl_L_law : List Nat := [187, 0, 8, 89, 183, 0, 17, 76, 187, 0, 18, 89, 183, 0, 20, 77, 4, 188, 11, 78, 3, 54, 4, 21, 4, 42, 190, 16, 6, 100, 163, 6, 84, 42, 21, 4, 46, 16, 63, 126, 170, 0, 0, 0, 0, 0, 6, 68, 0, 0, 0, 0, 0, 0, 0, 37, 0, 0, 0, 168, 0, 0, 0, 193, 0, 0, 0, 218, 0, 0, 0, 243, 0, 0, 1, 24, 0, 0, 1, 61, 0, 0, 1, 98, 0, 0, 1, 135, 0, 0, 1, 172, 0, 0, 1, 197, 0, 0, 1, 222, 0, 0, 1, 235, 0, 0, 2, 4, 0, 0, 2, 41, 0, 0, 2, 78, 0, 0, 2, 115, 0, 0, 2, 176, 0, 0, 2, 249, 0, 0, 3, 30, 0, 0, 3, 79, 0, 0, 3, 116, 0, 0, 3, 165, 0, 0, 3, 202, 0, 0, 3, 239, 0, 0, 4, 32, 0, 0, 4, 93, 0, 0, 4, 130, 0, 0, 4, 155, 0, 0, 4, 180, 0, 0, 4, 193, 0, 0, 4, 206, 0, 0, 4, 231, 0, 0, 5, 36, 0, 0, 5, 85, 0, 0, 5, 134, 0, 0, 5, 201, 0, 0, 6, 18, 0, 0, 6, 43, 43, 42, 21, 4, 4, 96, 46, 182, 0, 21, 44, 42, 21, 4, 4, 96, 46, 182, 0, 25, 159, 5, 136, 3, 172, 43, 42, 21, 4, 4, 96, 46, 182, 0, 26, 44, 42, 21, 4, 4, 96, 46, 182, 0, 29, 159, 5, 111, 3, 172, 43, 42, 21, 4, 4, 96, 46, 182, 0, 30, 44, 42, 21, 4, 4, 96, 46, 182, 0, 33, 159, 5, 86, 3, 172, 43, 42, 21, 4, 4, 96, 46, 42, 21, 4, 5, 96, 46, 182, 0, 34, 44, 42, 21, 4, 4, 96, 46, 42, 21, 4, 5, 96, 46, 182, 0, 38, 159, 5, 49, 3, 172, 43, 42, 21, 4, 4, 96, 46, 42, 21, 4, 5, 96, 46, 182, 0, 39, 44, 42, 21, 4, 4, 96, 46, 42, 21, 4, 5, 96, 46, 182, 0, 42, 159, 5, 12, 3, 172, 43, 42, 21, 4, 4, 96, 46, 42, 21, 4, 5, 96, 46, 182, 0, 43, 44, 42, 21, 4, 4, 96, 46, 42, 21, 4, 5, 96, 46, 182, 0, 46, 159, 4, 231, 3, 172, 43, 42, 21, 4, 4, 96, 46, 42, 21, 4, 5, 96, 46, 182, 0, 47, 44, 42, 21, 4, 4, 96, 46, 42, 21, 4, 5, 96, 46, 182, 0, 50, 159, 4, 194, 3, 172, 43, 42, 21, 4, 4, 96, 46, 42, 21, 4, 5, 96, 46, 182, 0, 51, 44, 42, 21, 4, 4, 96, 46, 42, 21, 4, 5, 96, 46, 182, 0, 54, 159, 4, 157, 3, 172, 43, 42, 21, 4, 4, 96, 46, 182, 0, 55, 44, 42, 21, 4, 4, 96, 46, 182, 0, 58, 159, 4, 132, 3, 172, 43, 42, 21, 4, 4, 96, 46, 182, 0, 59, 44, 42, 21, 4, 4, 96, 46, 182, 0, 62, 159, 4, 107, 3, 172, 43, 182, 0, 63, 44, 182, 0, 67, 159, 4, 94, 3, 172, 43, 42, 21, 4, 4, 96, 46, 182, 0, 68, 44, 42, 21, 4, 4, 96, 46, 182, 0, 71, 159, 4, 69, 3, 172, 43, 42, 21, 4, 4, 96, 46, 42, 21, 4, 5, 96, 46, 182, 0, 72, 44, 42, 21, 4, 4, 96, 46, 42, 21, 4, 5, 96, 46, 182, 0, 75, 159, 4, 32, 3, 172, 43, 42, 21, 4, 4, 96, 46, 42, 21, 4, 5, 96, 46, 182, 0, 76, 44, 42, 21, 4, 4, 96, 46, 42, 21, 4, 5, 96, 46, 182, 0, 79, 159, 3, 251, 3, 172, 43, 42, 21, 4, 4, 96, 46, 42, 21, 4, 5, 96, 46, 182, 0, 80, 44, 42, 21, 4, 4, 96, 46, 42, 21, 4, 5, 96, 46, 182, 0, 83, 159, 3, 214, 3, 172, 43, 42, 21, 4, 4, 96, 46, 42, 21, 4, 5, 96, 46, 42, 21, 4, 6, 96, 46, 42, 21, 4, 7, 96, 46, 182, 0, 84, 44, 42, 21, 4, 4, 96, 46, 42, 21, 4, 5, 96, 46, 42, 21, 4, 6, 96, 46, 42, 21, 4, 7, 96, 46, 182, 0, 88, 159, 3, 153, 3, 172, 43, 42, 21, 4, 4, 96, 46, 42, 21, 4, 5, 96, 46, 42, 21, 4, 6, 96, 46, 42, 21, 4, 7, 96, 46, 42, 21, 4, 8, 96, 46, 182, 0, 89, 44, 42, 21, 4, 4, 96, 46, 42, 21, 4, 5, 96, 46, 42, 21, 4, 6, 96, 46, 42, 21, 4, 7, 96, 46, 42, 21, 4, 8, 96, 46, 182, 0, 93, 159, 3, 80, 3, 172, 43, 42, 21, 4, 4, 96, 46, 42, 21, 4, 5, 96, 46, 182, 0, 94, 44, 42, 21, 4, 4, 96, 46, 42, 21, 4, 5, 96, 46, 182, 0, 97, 159, 3, 43, 3, 172, 43, 42, 21, 4, 4, 96, 46, 42, 21, 4, 5, 96, 46, 42, 21, 4, 6, 96, 46, 182, 0, 98, 44, 42, 21, 4, 4, 96, 46, 42, 21, 4, 5, 96, 46, 42, 21, 4, 6, 96, 46, 182, 0, 102, 159, 2, 250, 3, 172, 43, 42, 21, 4, 4, 96, 46, 42, 21, 4, 5, 96, 46, 182, 0, 103, 44, 42, 21, 4, 4, 96, 46, 42, 21, 4, 5, 96, 46, 182, 0, 106, 159, 2, 213, 3, 172, 43, 42, 21, 4, 4, 96, 46, 42, 21, 4, 5, 96, 46, 42, 21, 4, 6, 96, 46, 182, 0, 107, 44, 42, 21, 4, 4, 96, 46, 42, 21, 4, 5, 96, 46, 42, 21, 4, 6, 96, 46, 182, 0, 110, 159, 2, 164, 3, 172, 43, 42, 21, 4, 4, 96, 46, 42, 21, 4, 5, 96, 46, 182, 0, 111, 44, 42, 21, 4, 4, 96, 46, 42, 21, 4, 5, 96, 46, 182, 0, 114, 159, 2, 127, 3, 172, 43, 42, 21, 4, 4, 96, 46, 42, 21, 4, 5, 96, 46, 182, 0, 115, 44, 42, 21, 4, 4, 96, 46, 42, 21, 4, 5, 96, 46, 182, 0, 118, 159, 2, 90, 3, 172, 43, 42, 21, 4, 4, 96, 46, 42, 21, 4, 5, 96, 46, 42, 21, 4, 6, 96, 46, 182, 0, 119, 44, 42, 21, 4, 4, 96, 46, 42, 21, 4, 5, 96, 46, 42, 21, 4, 6, 96, 46, 182, 0, 122, 159, 2, 41, 3, 172, 43, 42, 21, 4, 4, 96, 46, 42, 21, 4, 5, 96, 46, 42, 21, 4, 6, 96, 46, 42, 21, 4, 7, 96, 46, 182, 0, 123, 44, 42, 21, 4, 4, 96, 46, 42, 21, 4, 5, 96, 46, 42, 21, 4, 6, 96, 46, 42, 21, 4, 7, 96, 46, 182, 0, 126, 159, 1, 236, 3, 172, 43, 42, 21, 4, 4, 96, 46, 42, 21, 4, 5, 96, 46, 182, 0, 127, 44, 42, 21, 4, 4, 96, 46, 42, 21, 4, 5, 96, 46, 182, 0, 130, 159, 1, 199, 3, 172, 43, 42, 21, 4, 4, 96, 46, 182, 0, 131, 44, 42, 21, 4, 4, 96, 46, 182, 0, 134, 159, 1, 174, 3, 172, 43, 42, 21, 4, 4, 96, 46, 182, 0, 135, 44, 42, 21, 4, 4, 96, 46, 182, 0, 138, 159, 1, 149, 3, 172, 43, 182, 0, 139, 44, 182, 0, 142, 159, 1, 136, 3, 172, 43, 182, 0, 143, 44, 182, 0, 146, 159, 1, 123, 3, 172, 43, 42, 21, 4, 4, 96, 46, 182, 0, 147, 44, 42, 21, 4, 4, 96, 46, 182, 0, 150, 159, 1, 98, 3, 172, 43, 42, 21, 4, 4, 96, 46, 42, 21, 4, 5, 96, 46, 42, 21, 4, 6, 96, 46, 42, 21, 4, 7, 96, 46, 182, 0, 151, 44, 42, 21, 4, 4, 96, 46, 42, 21, 4, 5, 96, 46, 42, 21, 4, 6, 96, 46, 42, 21, 4, 7, 96, 46, 182, 0, 154, 159, 1, 37, 3, 172, 43, 42, 21, 4, 4, 96, 46, 42, 21, 4, 5, 96, 46, 42, 21, 4, 6, 96, 46, 182, 0, 155, 44, 42, 21, 4, 4, 96, 46, 42, 21, 4, 5, 96, 46, 42, 21, 4, 6, 96, 46, 182, 0, 158, 159, 0, 244, 3, 172, 43, 42, 21, 4, 4, 96, 46, 42, 21, 4, 5, 96, 46, 42, 21, 4, 6, 96, 46, 182, 0, 159, 44, 42, 21, 4, 4, 96, 46, 42, 21, 4, 5, 96, 46, 42, 21, 4, 6, 96, 46, 182, 0, 162, 159, 0, 195, 3, 172, 43, 42, 21, 4, 4, 96, 46, 42, 21, 4, 5, 96, 46, 45, 184, 0, 163, 54, 5, 44, 42, 21, 4, 4, 96, 46, 42, 21, 4, 5, 96, 46, 182, 0, 168, 55, 6, 44, 182, 0, 169, 21, 5, 159, 0, 5, 3, 172, 21, 5, 154, 0, 14, 45, 3, 47, 22, 6, 148, 153, 0, 5, 3, 172, 167, 0, 126, 43, 42, 21, 4, 4, 96, 46, 42, 21, 4, 5, 96, 46, 42, 21, 4, 6, 96, 46, 42, 21, 4, 7, 96, 46, 42, 21, 4, 8, 96, 46, 182, 0, 172, 44, 42, 21, 4, 4, 96, 46, 42, 21, 4, 5, 96, 46, 42, 21, 4, 6, 96, 46, 42, 21, 4, 7, 96, 46, 42, 21, 4, 8, 96, 46, 182, 0, 175, 159, 0, 55, 3, 172, 43, 42, 21, 4, 4, 96, 46, 182, 0, 176, 44, 42, 21, 4, 4, 96, 46, 182, 0, 179, 159, 0, 30, 3, 172, 43, 42, 21, 4, 4, 96, 46, 182, 0, 180, 44, 42, 21, 4, 4, 96, 46, 182, 0, 183, 159, 0, 5, 3, 172, 132, 4, 6, 167, 249, 168, 4, 172]
theorem bp_L_law : cL_law.data.toList.map UInt8.toNat = bl_L_law := by decide +kernel
theorem b_L_law {k : Nat} (p : Nat) (h : bl_L_law[p]? = some k) : bAt cL_law p = some k := bAt_of bp_L_law h
theorem dL_law_0 : decode cL_law 0 = .ok (.new 8, 3) := dc_187 (b_L_law 1 rfl) (b_L_law 2 rfl) rfl (b_L_law 0 rfl)
theorem dL_law_3 : decode cL_law 3 = .ok (.dup, 1) := dc_89 (b_L_law 3 rfl)
theorem dL_law_4 : decode cL_law 4 = .ok (.invokespecial 17, 3) := dc_183 (b_L_law 5 rfl) (b_L_law 6 rfl) rfl (b_L_law 4 rfl)
theorem dL_law_7 : decode cL_law 7 = .ok (.astore_n 1, 1) := dc_76 (b_L_law 7 rfl)
theorem dL_law_8 : decode cL_law 8 = .ok (.new 18, 3) := dc_187 (b_L_law 9 rfl) (b_L_law 10 rfl) rfl (b_L_law 8 rfl)
theorem dL_law_11 : decode cL_law 11 = .ok (.dup, 1) := dc_89 (b_L_law 11 rfl)
theorem dL_law_12 : decode cL_law 12 = .ok (.invokespecial 20, 3) := dc_183 (b_L_law 13 rfl) (b_L_law 14 rfl) rfl (b_L_law 12 rfl)
theorem dL_law_15 : decode cL_law 15 = .ok (.astore_n 2, 1) := dc_77 (b_L_law 15 rfl)
theorem dL_law_16 : decode cL_law 16 = .ok (.iconst 1, 1) := dc_4 (b_L_law 16 rfl)
theorem dL_law_17 : decode cL_law 17 = .ok (.newarray .long, 2) := by decide +kernel
theorem dL_law_19 : decode cL_law 19 = .ok (.astore_n 3, 1) := dc_78 (b_L_law 19 rfl)
theorem dL_law_20 : decode cL_law 20 = .ok (.iconst 0, 1) := dc_3 (b_L_law 20 rfl)
theorem dL_law_21 : decode cL_law 21 = .ok (.istore 4, 2) := dc_54 (b_L_law 22 rfl) (b_L_law 21 rfl)
theorem dL_law_23 : decode cL_law 23 = .ok (.iload 4, 2) := dc_21 (b_L_law 24 rfl) (b_L_law 23 rfl)
theorem dL_law_25 : decode cL_law 25 = .ok (.aload_n 0, 1) := dc_42 (b_L_law 25 rfl)
theorem dL_law_26 : decode cL_law 26 = .ok (.arraylength, 1) := dc_190 (b_L_law 26 rfl)
theorem dL_law_27 : decode cL_law 27 = .ok (.bipush 6, 2) := dc_16 (b_L_law 28 rfl) rfl (b_L_law 27 rfl)
theorem dL_law_29 : decode cL_law 29 = .ok (.isub, 1) := dc_100 (b_L_law 29 rfl)
theorem dL_law_30 : decode cL_law 30 = .ok (.if_icmp .gt 1620, 3) := dc_163 (b_L_law 31 rfl) (b_L_law 32 rfl) rfl (b_L_law 30 rfl)
theorem dL_law_33 : decode cL_law 33 = .ok (.aload_n 0, 1) := dc_42 (b_L_law 33 rfl)
theorem dL_law_34 : decode cL_law 34 = .ok (.iload 4, 2) := dc_21 (b_L_law 35 rfl) (b_L_law 34 rfl)
theorem dL_law_36 : decode cL_law 36 = .ok (.iaload, 1) := dc_46 (b_L_law 36 rfl)
theorem dL_law_37 : decode cL_law 37 = .ok (.bipush 63, 2) := dc_16 (b_L_law 38 rfl) rfl (b_L_law 37 rfl)
theorem dL_law_39 : decode cL_law 39 = .ok (.iand, 1) := dc_126 (b_L_law 39 rfl)
theorem dL_law_40 : decode cL_law 40 = .ok (.tableswitch 1604 0 37 #[168, 193, 218, 243, 280, 317, 354, 391, 428, 453, 478, 491, 516, 553, 590, 627, 688, 761, 798, 847, 884, 933, 970, 1007, 1056, 1117, 1154, 1179, 1204, 1217, 1230, 1255, 1316, 1365, 1414, 1481, 1554, 1579], 168) := by decide +kernel
theorem dL_law_208 : decode cL_law 208 = .ok (.aload_n 1, 1) := dc_43 (b_L_law 208 rfl)
theorem dL_law_209 : decode cL_law 209 = .ok (.aload_n 0, 1) := dc_42 (b_L_law 209 rfl)
theorem dL_law_210 : decode cL_law 210 = .ok (.iload 4, 2) := dc_21 (b_L_law 211 rfl) (b_L_law 210 rfl)
theorem dL_law_212 : decode cL_law 212 = .ok (.iconst 1, 1) := dc_4 (b_L_law 212 rfl)
theorem dL_law_213 : decode cL_law 213 = .ok (.iadd, 1) := dc_96 (b_L_law 213 rfl)
theorem dL_law_214 : decode cL_law 214 = .ok (.iaload, 1) := dc_46 (b_L_law 214 rfl)
theorem dL_law_215 : decode cL_law 215 = .ok (.invokevirtual 21, 3) := dc_182 (b_L_law 216 rfl) (b_L_law 217 rfl) rfl (b_L_law 215 rfl)
theorem dL_law_218 : decode cL_law 218 = .ok (.aload_n 2, 1) := dc_44 (b_L_law 218 rfl)
theorem dL_law_219 : decode cL_law 219 = .ok (.aload_n 0, 1) := dc_42 (b_L_law 219 rfl)
theorem dL_law_220 : decode cL_law 220 = .ok (.iload 4, 2) := dc_21 (b_L_law 221 rfl) (b_L_law 220 rfl)
theorem dL_law_222 : decode cL_law 222 = .ok (.iconst 1, 1) := dc_4 (b_L_law 222 rfl)
theorem dL_law_223 : decode cL_law 223 = .ok (.iadd, 1) := dc_96 (b_L_law 223 rfl)
theorem dL_law_224 : decode cL_law 224 = .ok (.iaload, 1) := dc_46 (b_L_law 224 rfl)
theorem dL_law_225 : decode cL_law 225 = .ok (.invokevirtual 25, 3) := dc_182 (b_L_law 226 rfl) (b_L_law 227 rfl) rfl (b_L_law 225 rfl)
theorem dL_law_228 : decode cL_law 228 = .ok (.if_icmp .eq 1416, 3) := dc_159 (b_L_law 229 rfl) (b_L_law 230 rfl) rfl (b_L_law 228 rfl)
theorem dL_law_231 : decode cL_law 231 = .ok (.iconst 0, 1) := dc_3 (b_L_law 231 rfl)
theorem dL_law_232 : decode cL_law 232 = .ok (.ireturn, 1) := dc_172 (b_L_law 232 rfl)
theorem dL_law_233 : decode cL_law 233 = .ok (.aload_n 1, 1) := dc_43 (b_L_law 233 rfl)
theorem dL_law_234 : decode cL_law 234 = .ok (.aload_n 0, 1) := dc_42 (b_L_law 234 rfl)
theorem dL_law_235 : decode cL_law 235 = .ok (.iload 4, 2) := dc_21 (b_L_law 236 rfl) (b_L_law 235 rfl)
theorem dL_law_237 : decode cL_law 237 = .ok (.iconst 1, 1) := dc_4 (b_L_law 237 rfl)
theorem dL_law_238 : decode cL_law 238 = .ok (.iadd, 1) := dc_96 (b_L_law 238 rfl)
theorem dL_law_239 : decode cL_law 239 = .ok (.iaload, 1) := dc_46 (b_L_law 239 rfl)
theorem dL_law_240 : decode cL_law 240 = .ok (.invokevirtual 26, 3) := dc_182 (b_L_law 241 rfl) (b_L_law 242 rfl) rfl (b_L_law 240 rfl)
theorem dL_law_243 : decode cL_law 243 = .ok (.aload_n 2, 1) := dc_44 (b_L_law 243 rfl)
theorem dL_law_244 : decode cL_law 244 = .ok (.aload_n 0, 1) := dc_42 (b_L_law 244 rfl)
theorem dL_law_245 : decode cL_law 245 = .ok (.iload 4, 2) := dc_21 (b_L_law 246 rfl) (b_L_law 245 rfl)
theorem dL_law_247 : decode cL_law 247 = .ok (.iconst 1, 1) := dc_4 (b_L_law 247 rfl)
theorem dL_law_248 : decode cL_law 248 = .ok (.iadd, 1) := dc_96 (b_L_law 248 rfl)
theorem dL_law_249 : decode cL_law 249 = .ok (.iaload, 1) := dc_46 (b_L_law 249 rfl)
theorem dL_law_250 : decode cL_law 250 = .ok (.invokevirtual 29, 3) := dc_182 (b_L_law 251 rfl) (b_L_law 252 rfl) rfl (b_L_law 250 rfl)
theorem dL_law_253 : decode cL_law 253 = .ok (.if_icmp .eq 1391, 3) := dc_159 (b_L_law 254 rfl) (b_L_law 255 rfl) rfl (b_L_law 253 rfl)
theorem dL_law_256 : decode cL_law 256 = .ok (.iconst 0, 1) := dc_3 (b_L_law 256 rfl)
theorem dL_law_257 : decode cL_law 257 = .ok (.ireturn, 1) := dc_172 (b_L_law 257 rfl)
theorem dL_law_258 : decode cL_law 258 = .ok (.aload_n 1, 1) := dc_43 (b_L_law 258 rfl)
theorem dL_law_259 : decode cL_law 259 = .ok (.aload_n 0, 1) := dc_42 (b_L_law 259 rfl)
theorem dL_law_260 : decode cL_law 260 = .ok (.iload 4, 2) := dc_21 (b_L_law 261 rfl) (b_L_law 260 rfl)
theorem dL_law_262 : decode cL_law 262 = .ok (.iconst 1, 1) := dc_4 (b_L_law 262 rfl)
theorem dL_law_263 : decode cL_law 263 = .ok (.iadd, 1) := dc_96 (b_L_law 263 rfl)
theorem dL_law_264 : decode cL_law 264 = .ok (.iaload, 1) := dc_46 (b_L_law 264 rfl)
theorem dL_law_265 : decode cL_law 265 = .ok (.invokevirtual 30, 3) := dc_182 (b_L_law 266 rfl) (b_L_law 267 rfl) rfl (b_L_law 265 rfl)
theorem dL_law_268 : decode cL_law 268 = .ok (.aload_n 2, 1) := dc_44 (b_L_law 268 rfl)
theorem dL_law_269 : decode cL_law 269 = .ok (.aload_n 0, 1) := dc_42 (b_L_law 269 rfl)
theorem dL_law_270 : decode cL_law 270 = .ok (.iload 4, 2) := dc_21 (b_L_law 271 rfl) (b_L_law 270 rfl)
theorem dL_law_272 : decode cL_law 272 = .ok (.iconst 1, 1) := dc_4 (b_L_law 272 rfl)
theorem dL_law_273 : decode cL_law 273 = .ok (.iadd, 1) := dc_96 (b_L_law 273 rfl)
theorem dL_law_274 : decode cL_law 274 = .ok (.iaload, 1) := dc_46 (b_L_law 274 rfl)
theorem dL_law_275 : decode cL_law 275 = .ok (.invokevirtual 33, 3) := dc_182 (b_L_law 276 rfl) (b_L_law 277 rfl) rfl (b_L_law 275 rfl)
theorem dL_law_278 : decode cL_law 278 = .ok (.if_icmp .eq 1366, 3) := dc_159 (b_L_law 279 rfl) (b_L_law 280 rfl) rfl (b_L_law 278 rfl)
theorem dL_law_281 : decode cL_law 281 = .ok (.iconst 0, 1) := dc_3 (b_L_law 281 rfl)
theorem dL_law_282 : decode cL_law 282 = .ok (.ireturn, 1) := dc_172 (b_L_law 282 rfl)
theorem dL_law_283 : decode cL_law 283 = .ok (.aload_n 1, 1) := dc_43 (b_L_law 283 rfl)
theorem dL_law_284 : decode cL_law 284 = .ok (.aload_n 0, 1) := dc_42 (b_L_law 284 rfl)
theorem dL_law_285 : decode cL_law 285 = .ok (.iload 4, 2) := dc_21 (b_L_law 286 rfl) (b_L_law 285 rfl)
theorem dL_law_287 : decode cL_law 287 = .ok (.iconst 1, 1) := dc_4 (b_L_law 287 rfl)
theorem dL_law_288 : decode cL_law 288 = .ok (.iadd, 1) := dc_96 (b_L_law 288 rfl)
theorem dL_law_289 : decode cL_law 289 = .ok (.iaload, 1) := dc_46 (b_L_law 289 rfl)
theorem dL_law_290 : decode cL_law 290 = .ok (.aload_n 0, 1) := dc_42 (b_L_law 290 rfl)
theorem dL_law_291 : decode cL_law 291 = .ok (.iload 4, 2) := dc_21 (b_L_law 292 rfl) (b_L_law 291 rfl)
theorem dL_law_293 : decode cL_law 293 = .ok (.iconst 2, 1) := dc_5 (b_L_law 293 rfl)
theorem dL_law_294 : decode cL_law 294 = .ok (.iadd, 1) := dc_96 (b_L_law 294 rfl)
theorem dL_law_295 : decode cL_law 295 = .ok (.iaload, 1) := dc_46 (b_L_law 295 rfl)
theorem dL_law_296 : decode cL_law 296 = .ok (.invokevirtual 34, 3) := dc_182 (b_L_law 297 rfl) (b_L_law 298 rfl) rfl (b_L_law 296 rfl)
theorem dL_law_299 : decode cL_law 299 = .ok (.aload_n 2, 1) := dc_44 (b_L_law 299 rfl)
set_option maxRecDepth 20000 in
theorem dL_law_300 : decode cL_law 300 = .ok (.aload_n 0, 1) := dc_42 (b_L_law 300 rfl)
set_option maxRecDepth 20000 in
theorem dL_law_301 : decode cL_law 301 = .ok (.iload 4, 2) := dc_21 (b_L_law 302 rfl) (b_L_law 301 rfl)
set_option maxRecDepth 20000 in
theorem dL_law_303 : decode cL_law 303 = .ok (.iconst 1, 1) := dc_4 (b_L_law 303 rfl)
set_option maxRecDepth 20000 in
theorem dL_law_304 : decode cL_law 304 = .ok (.iadd, 1) := dc_96 (b_L_law 304 rfl)
set_option maxRecDepth 20000 in
theorem dL_law_305 : decode cL_law 305 = .ok (.iaload, 1) := dc_46 (b_L_law 305 rfl)
set_option maxRecDepth 20000 in
theorem dL_law_306 : decode cL_law 306 = .ok (.aload_n 0, 1) := dc_42 (b_L_law 306 rfl)
set_option maxRecDepth 20000 in
theorem dL_law_307 : decode cL_law 307 = .ok (.iload 4, 2) := dc_21 (b_L_law 308 rfl) (b_L_law 307 rfl)
set_option maxRecDepth 20000 in
theorem dL_law_309 : decode cL_law 309 = .ok (.iconst 2, 1) := dc_5 (b_L_law 309 rfl)
set_option maxRecDepth 20000 in
theorem dL_law_310 : decode cL_law 310 = .ok (.iadd, 1) := dc_96 (b_L_law 310 rfl)
set_option maxRecDepth 20000 in
theorem dL_law_311 : decode cL_law 311 = .ok (.iaload, 1) := dc_46 (b_L_law 311 rfl)
set_option maxRecDepth 20000 in
theorem dL_law_312 : decode cL_law 312 = .ok (.invokevirtual 38, 3) := dc_182 (b_L_law 313 rfl) (b_L_law 314 rfl) rfl (b_L_law 312 rfl)
set_option maxRecDepth 20000 in
theorem dL_law_315 : decode cL_law 315 = .ok (.if_icmp .eq 1329, 3) := dc_159 (b_L_law 316 rfl) (b_L_law 317 rfl) rfl (b_L_law 315 rfl)
set_option maxRecDepth 20000 in
theorem dL_law_318 : decode cL_law 318 = .ok (.iconst 0, 1) := dc_3 (b_L_law 318 rfl)
set_option maxRecDepth 20000 in
theorem dL_law_319 : decode cL_law 319 = .ok (.ireturn, 1) := dc_172 (b_L_law 319 rfl)
set_option maxRecDepth 20000 in
theorem dL_law_320 : decode cL_law 320 = .ok (.aload_n 1, 1) := dc_43 (b_L_law 320 rfl)
set_option maxRecDepth 20000 in
theorem dL_law_321 : decode cL_law 321 = .ok (.aload_n 0, 1) := dc_42 (b_L_law 321 rfl)
set_option maxRecDepth 20000 in
theorem dL_law_322 : decode cL_law 322 = .ok (.iload 4, 2) := dc_21 (b_L_law 323 rfl) (b_L_law 322 rfl)
set_option maxRecDepth 20000 in
theorem dL_law_324 : decode cL_law 324 = .ok (.iconst 1, 1) := dc_4 (b_L_law 324 rfl)
set_option maxRecDepth 20000 in
theorem dL_law_325 : decode cL_law 325 = .ok (.iadd, 1) := dc_96 (b_L_law 325 rfl)
set_option maxRecDepth 20000 in
theorem dL_law_326 : decode cL_law 326 = .ok (.iaload, 1) := dc_46 (b_L_law 326 rfl)
set_option maxRecDepth 20000 in
theorem dL_law_327 : decode cL_law 327 = .ok (.aload_n 0, 1) := dc_42 (b_L_law 327 rfl)
set_option maxRecDepth 20000 in
theorem dL_law_328 : decode cL_law 328 = .ok (.iload 4, 2) := dc_21 (b_L_law 329 rfl) (b_L_law 328 rfl)
set_option maxRecDepth 20000 in
theorem dL_law_330 : decode cL_law 330 = .ok (.iconst 2, 1) := dc_5 (b_L_law 330 rfl)
set_option maxRecDepth 20000 in
theorem dL_law_331 : decode cL_law 331 = .ok (.iadd, 1) := dc_96 (b_L_law 331 rfl)
set_option maxRecDepth 20000 in
theorem dL_law_332 : decode cL_law 332 = .ok (.iaload, 1) := dc_46 (b_L_law 332 rfl)
set_option maxRecDepth 20000 in
theorem dL_law_333 : decode cL_law 333 = .ok (.invokevirtual 39, 3) := dc_182 (b_L_law 334 rfl) (b_L_law 335 rfl) rfl (b_L_law 333 rfl)
set_option maxRecDepth 20000 in
theorem dL_law_336 : decode cL_law 336 = .ok (.aload_n 2, 1) := dc_44 (b_L_law 336 rfl)
set_option maxRecDepth 20000 in
theorem dL_law_337 : decode cL_law 337 = .ok (.aload_n 0, 1) := dc_42 (b_L_law 337 rfl)
set_option maxRecDepth 20000 in
theorem dL_law_338 : decode cL_law 338 = .ok (.iload 4, 2) := dc_21 (b_L_law 339 rfl) (b_L_law 338 rfl)
set_option maxRecDepth 20000 in
theorem dL_law_340 : decode cL_law 340 = .ok (.iconst 1, 1) := dc_4 (b_L_law 340 rfl)
set_option maxRecDepth 20000 in
theorem dL_law_341 : decode cL_law 341 = .ok (.iadd, 1) := dc_96 (b_L_law 341 rfl)
set_option maxRecDepth 20000 in
theorem dL_law_342 : decode cL_law 342 = .ok (.iaload, 1) := dc_46 (b_L_law 342 rfl)
set_option maxRecDepth 20000 in
theorem dL_law_343 : decode cL_law 343 = .ok (.aload_n 0, 1) := dc_42 (b_L_law 343 rfl)
set_option maxRecDepth 20000 in
theorem dL_law_344 : decode cL_law 344 = .ok (.iload 4, 2) := dc_21 (b_L_law 345 rfl) (b_L_law 344 rfl)
set_option maxRecDepth 20000 in
theorem dL_law_346 : decode cL_law 346 = .ok (.iconst 2, 1) := dc_5 (b_L_law 346 rfl)
set_option maxRecDepth 20000 in
theorem dL_law_347 : decode cL_law 347 = .ok (.iadd, 1) := dc_96 (b_L_law 347 rfl)
set_option maxRecDepth 20000 in
theorem dL_law_348 : decode cL_law 348 = .ok (.iaload, 1) := dc_46 (b_L_law 348 rfl)
set_option maxRecDepth 20000 in
theorem dL_law_349 : decode cL_law 349 = .ok (.invokevirtual 42, 3) := dc_182 (b_L_law 350 rfl) (b_L_law 351 rfl) rfl (b_L_law 349 rfl)
set_option maxRecDepth 20000 in
theorem dL_law_352 : decode cL_law 352 = .ok (.if_icmp .eq 1292, 3) := dc_159 (b_L_law 353 rfl) (b_L_law 354 rfl) rfl (b_L_law 352 rfl)
set_option maxRecDepth 20000 in
theorem dL_law_355 : decode cL_law 355 = .ok (.iconst 0, 1) := dc_3 (b_L_law 355 rfl)
set_option maxRecDepth 20000 in
theorem dL_law_356 : decode cL_law 356 = .ok (.ireturn, 1) := dc_172 (b_L_law 356 rfl)
set_option maxRecDepth 20000 in
theorem dL_law_357 : decode cL_law 357 = .ok (.aload_n 1, 1) := dc_43 (b_L_law 357 rfl)
set_option maxRecDepth 20000 in
theorem dL_law_358 : decode cL_law 358 = .ok (.aload_n 0, 1) := dc_42 (b_L_law 358 rfl)
set_option maxRecDepth 20000 in
theorem dL_law_359 : decode cL_law 359 = .ok (.iload 4, 2) := dc_21 (b_L_law 360 rfl) (b_L_law 359 rfl)
set_option maxRecDepth 20000 in
theorem dL_law_361 : decode cL_law 361 = .ok (.iconst 1, 1) := dc_4 (b_L_law 361 rfl)
set_option maxRecDepth 20000 in
theorem dL_law_362 : decode cL_law 362 = .ok (.iadd, 1) := dc_96 (b_L_law 362 rfl)
set_option maxRecDepth 20000 in
theorem dL_law_363 : decode cL_law 363 = .ok (.iaload, 1) := dc_46 (b_L_law 363 rfl)
set_option maxRecDepth 20000 in
theorem dL_law_364 : decode cL_law 364 = .ok (.aload_n 0, 1) := dc_42 (b_L_law 364 rfl)
set_option maxRecDepth 20000 in
theorem dL_law_365 : decode cL_law 365 = .ok (.iload 4, 2) := dc_21 (b_L_law 366 rfl) (b_L_law 365 rfl)
set_option maxRecDepth 20000 in
theorem dL_law_367 : decode cL_law 367 = .ok (.iconst 2, 1) := dc_5 (b_L_law 367 rfl)
set_option maxRecDepth 20000 in
theorem dL_law_368 : decode cL_law 368 = .ok (.iadd, 1) := dc_96 (b_L_law 368 rfl)
set_option maxRecDepth 20000 in
theorem dL_law_369 : decode cL_law 369 = .ok (.iaload, 1) := dc_46 (b_L_law 369 rfl)
set_option maxRecDepth 20000 in
theorem dL_law_370 : decode cL_law 370 = .ok (.invokevirtual 43, 3) := dc_182 (b_L_law 371 rfl) (b_L_law 372 rfl) rfl (b_L_law 370 rfl)
set_option maxRecDepth 20000 in
theorem dL_law_373 : decode cL_law 373 = .ok (.aload_n 2, 1) := dc_44 (b_L_law 373 rfl)
set_option maxRecDepth 20000 in
theorem dL_law_374 : decode cL_law 374 = .ok (.aload_n 0, 1) := dc_42 (b_L_law 374 rfl)
set_option maxRecDepth 20000 in
theorem dL_law_375 : decode cL_law 375 = .ok (.iload 4, 2) := dc_21 (b_L_law 376 rfl) (b_L_law 375 rfl)
set_option maxRecDepth 20000 in
theorem dL_law_377 : decode cL_law 377 = .ok (.iconst 1, 1) := dc_4 (b_L_law 377 rfl)
set_option maxRecDepth 20000 in
theorem dL_law_378 : decode cL_law 378 = .ok (.iadd, 1) := dc_96 (b_L_law 378 rfl)
set_option maxRecDepth 20000 in
theorem dL_law_379 : decode cL_law 379 = .ok (.iaload, 1) := dc_46 (b_L_law 379 rfl)
set_option maxRecDepth 20000 in
theorem dL_law_380 : decode cL_law 380 = .ok (.aload_n 0, 1) := dc_42 (b_L_law 380 rfl)
set_option maxRecDepth 20000 in
theorem dL_law_381 : decode cL_law 381 = .ok (.iload 4, 2) := dc_21 (b_L_law 382 rfl) (b_L_law 381 rfl)
set_option maxRecDepth 20000 in
theorem dL_law_383 : decode cL_law 383 = .ok (.iconst 2, 1) := dc_5 (b_L_law 383 rfl)
set_option maxRecDepth 20000 in
theorem dL_law_384 : decode cL_law 384 = .ok (.iadd, 1) := dc_96 (b_L_law 384 rfl)
set_option maxRecDepth 20000 in
theorem dL_law_385 : decode cL_law 385 = .ok (.iaload, 1) := dc_46 (b_L_law 385 rfl)
set_option maxRecDepth 20000 in
theorem dL_law_386 : decode cL_law 386 = .ok (.invokevirtual 46, 3) := dc_182 (b_L_law 387 rfl) (b_L_law 388 rfl) rfl (b_L_law 386 rfl)
set_option maxRecDepth 20000 in
theorem dL_law_389 : decode cL_law 389 = .ok (.if_icmp .eq 1255, 3) := dc_159 (b_L_law 390 rfl) (b_L_law 391 rfl) rfl (b_L_law 389 rfl)
set_option maxRecDepth 20000 in
theorem dL_law_392 : decode cL_law 392 = .ok (.iconst 0, 1) := dc_3 (b_L_law 392 rfl)
set_option maxRecDepth 20000 in
theorem dL_law_393 : decode cL_law 393 = .ok (.ireturn, 1) := dc_172 (b_L_law 393 rfl)
set_option maxRecDepth 20000 in
theorem dL_law_394 : decode cL_law 394 = .ok (.aload_n 1, 1) := dc_43 (b_L_law 394 rfl)
set_option maxRecDepth 20000 in
theorem dL_law_395 : decode cL_law 395 = .ok (.aload_n 0, 1) := dc_42 (b_L_law 395 rfl)
set_option maxRecDepth 20000 in
theorem dL_law_396 : decode cL_law 396 = .ok (.iload 4, 2) := dc_21 (b_L_law 397 rfl) (b_L_law 396 rfl)
set_option maxRecDepth 20000 in
theorem dL_law_398 : decode cL_law 398 = .ok (.iconst 1, 1) := dc_4 (b_L_law 398 rfl)
set_option maxRecDepth 20000 in
theorem dL_law_399 : decode cL_law 399 = .ok (.iadd, 1) := dc_96 (b_L_law 399 rfl)
set_option maxRecDepth 20000 in
theorem dL_law_400 : decode cL_law 400 = .ok (.iaload, 1) := dc_46 (b_L_law 400 rfl)
set_option maxRecDepth 20000 in
theorem dL_law_401 : decode cL_law 401 = .ok (.aload_n 0, 1) := dc_42 (b_L_law 401 rfl)
set_option maxRecDepth 20000 in
theorem dL_law_402 : decode cL_law 402 = .ok (.iload 4, 2) := dc_21 (b_L_law 403 rfl) (b_L_law 402 rfl)
set_option maxRecDepth 20000 in
theorem dL_law_404 : decode cL_law 404 = .ok (.iconst 2, 1) := dc_5 (b_L_law 404 rfl)
set_option maxRecDepth 20000 in
theorem dL_law_405 : decode cL_law 405 = .ok (.iadd, 1) := dc_96 (b_L_law 405 rfl)
set_option maxRecDepth 20000 in
theorem dL_law_406 : decode cL_law 406 = .ok (.iaload, 1) := dc_46 (b_L_law 406 rfl)
set_option maxRecDepth 20000 in
theorem dL_law_407 : decode cL_law 407 = .ok (.invokevirtual 47, 3) := dc_182 (b_L_law 408 rfl) (b_L_law 409 rfl) rfl (b_L_law 407 rfl)
set_option maxRecDepth 20000 in
theorem dL_law_410 : decode cL_law 410 = .ok (.aload_n 2, 1) := dc_44 (b_L_law 410 rfl)
set_option maxRecDepth 20000 in
theorem dL_law_411 : decode cL_law 411 = .ok (.aload_n 0, 1) := dc_42 (b_L_law 411 rfl)
set_option maxRecDepth 20000 in
theorem dL_law_412 : decode cL_law 412 = .ok (.iload 4, 2) := dc_21 (b_L_law 413 rfl) (b_L_law 412 rfl)
set_option maxRecDepth 20000 in
theorem dL_law_414 : decode cL_law 414 = .ok (.iconst 1, 1) := dc_4 (b_L_law 414 rfl)
set_option maxRecDepth 20000 in
theorem dL_law_415 : decode cL_law 415 = .ok (.iadd, 1) := dc_96 (b_L_law 415 rfl)
set_option maxRecDepth 20000 in
theorem dL_law_416 : decode cL_law 416 = .ok (.iaload, 1) := dc_46 (b_L_law 416 rfl)
set_option maxRecDepth 20000 in
theorem dL_law_417 : decode cL_law 417 = .ok (.aload_n 0, 1) := dc_42 (b_L_law 417 rfl)
set_option maxRecDepth 20000 in
theorem dL_law_418 : decode cL_law 418 = .ok (.iload 4, 2) := dc_21 (b_L_law 419 rfl) (b_L_law 418 rfl)
set_option maxRecDepth 20000 in
theorem dL_law_420 : decode cL_law 420 = .ok (.iconst 2, 1) := dc_5 (b_L_law 420 rfl)
set_option maxRecDepth 20000 in
theorem dL_law_421 : decode cL_law 421 = .ok (.iadd, 1) := dc_96 (b_L_law 421 rfl)
set_option maxRecDepth 20000 in
theorem dL_law_422 : decode cL_law 422 = .ok (.iaload, 1) := dc_46 (b_L_law 422 rfl)
set_option maxRecDepth 20000 in
theorem dL_law_423 : decode cL_law 423 = .ok (.invokevirtual 50, 3) := dc_182 (b_L_law 424 rfl) (b_L_law 425 rfl) rfl (b_L_law 423 rfl)
set_option maxRecDepth 20000 in
theorem dL_law_426 : decode cL_law 426 = .ok (.if_icmp .eq 1218, 3) := dc_159 (b_L_law 427 rfl) (b_L_law 428 rfl) rfl (b_L_law 426 rfl)
set_option maxRecDepth 20000 in
theorem dL_law_429 : decode cL_law 429 = .ok (.iconst 0, 1) := dc_3 (b_L_law 429 rfl)
set_option maxRecDepth 20000 in
theorem dL_law_430 : decode cL_law 430 = .ok (.ireturn, 1) := dc_172 (b_L_law 430 rfl)
set_option maxRecDepth 20000 in
theorem dL_law_431 : decode cL_law 431 = .ok (.aload_n 1, 1) := dc_43 (b_L_law 431 rfl)
set_option maxRecDepth 20000 in
theorem dL_law_432 : decode cL_law 432 = .ok (.aload_n 0, 1) := dc_42 (b_L_law 432 rfl)
set_option maxRecDepth 20000 in
theorem dL_law_433 : decode cL_law 433 = .ok (.iload 4, 2) := dc_21 (b_L_law 434 rfl) (b_L_law 433 rfl)
set_option maxRecDepth 20000 in
theorem dL_law_435 : decode cL_law 435 = .ok (.iconst 1, 1) := dc_4 (b_L_law 435 rfl)
set_option maxRecDepth 20000 in
theorem dL_law_436 : decode cL_law 436 = .ok (.iadd, 1) := dc_96 (b_L_law 436 rfl)
set_option maxRecDepth 20000 in
theorem dL_law_437 : decode cL_law 437 = .ok (.iaload, 1) := dc_46 (b_L_law 437 rfl)
set_option maxRecDepth 20000 in
theorem dL_law_438 : decode cL_law 438 = .ok (.aload_n 0, 1) := dc_42 (b_L_law 438 rfl)
set_option maxRecDepth 20000 in
theorem dL_law_439 : decode cL_law 439 = .ok (.iload 4, 2) := dc_21 (b_L_law 440 rfl) (b_L_law 439 rfl)
set_option maxRecDepth 20000 in
theorem dL_law_441 : decode cL_law 441 = .ok (.iconst 2, 1) := dc_5 (b_L_law 441 rfl)
set_option maxRecDepth 20000 in
theorem dL_law_442 : decode cL_law 442 = .ok (.iadd, 1) := dc_96 (b_L_law 442 rfl)
set_option maxRecDepth 20000 in
theorem dL_law_443 : decode cL_law 443 = .ok (.iaload, 1) := dc_46 (b_L_law 443 rfl)
set_option maxRecDepth 20000 in
theorem dL_law_444 : decode cL_law 444 = .ok (.invokevirtual 51, 3) := dc_182 (b_L_law 445 rfl) (b_L_law 446 rfl) rfl (b_L_law 444 rfl)
set_option maxRecDepth 20000 in
theorem dL_law_447 : decode cL_law 447 = .ok (.aload_n 2, 1) := dc_44 (b_L_law 447 rfl)
set_option maxRecDepth 20000 in
theorem dL_law_448 : decode cL_law 448 = .ok (.aload_n 0, 1) := dc_42 (b_L_law 448 rfl)
set_option maxRecDepth 20000 in
theorem dL_law_449 : decode cL_law 449 = .ok (.iload 4, 2) := dc_21 (b_L_law 450 rfl) (b_L_law 449 rfl)
set_option maxRecDepth 20000 in
theorem dL_law_451 : decode cL_law 451 = .ok (.iconst 1, 1) := dc_4 (b_L_law 451 rfl)
set_option maxRecDepth 20000 in
theorem dL_law_452 : decode cL_law 452 = .ok (.iadd, 1) := dc_96 (b_L_law 452 rfl)
set_option maxRecDepth 20000 in
theorem dL_law_453 : decode cL_law 453 = .ok (.iaload, 1) := dc_46 (b_L_law 453 rfl)
set_option maxRecDepth 20000 in
theorem dL_law_454 : decode cL_law 454 = .ok (.aload_n 0, 1) := dc_42 (b_L_law 454 rfl)
set_option maxRecDepth 20000 in
theorem dL_law_455 : decode cL_law 455 = .ok (.iload 4, 2) := dc_21 (b_L_law 456 rfl) (b_L_law 455 rfl)
set_option maxRecDepth 20000 in
theorem dL_law_457 : decode cL_law 457 = .ok (.iconst 2, 1) := dc_5 (b_L_law 457 rfl)
set_option maxRecDepth 20000 in
theorem dL_law_458 : decode cL_law 458 = .ok (.iadd, 1) := dc_96 (b_L_law 458 rfl)
set_option maxRecDepth 20000 in
theorem dL_law_459 : decode cL_law 459 = .ok (.iaload, 1) := dc_46 (b_L_law 459 rfl)
set_option maxRecDepth 20000 in
theorem dL_law_460 : decode cL_law 460 = .ok (.invokevirtual 54, 3) := dc_182 (b_L_law 461 rfl) (b_L_law 462 rfl) rfl (b_L_law 460 rfl)
set_option maxRecDepth 20000 in
theorem dL_law_463 : decode cL_law 463 = .ok (.if_icmp .eq 1181, 3) := dc_159 (b_L_law 464 rfl) (b_L_law 465 rfl) rfl (b_L_law 463 rfl)
set_option maxRecDepth 20000 in
theorem dL_law_466 : decode cL_law 466 = .ok (.iconst 0, 1) := dc_3 (b_L_law 466 rfl)
set_option maxRecDepth 20000 in
theorem dL_law_467 : decode cL_law 467 = .ok (.ireturn, 1) := dc_172 (b_L_law 467 rfl)
set_option maxRecDepth 20000 in
theorem dL_law_468 : decode cL_law 468 = .ok (.aload_n 1, 1) := dc_43 (b_L_law 468 rfl)
set_option maxRecDepth 20000 in
theorem dL_law_469 : decode cL_law 469 = .ok (.aload_n 0, 1) := dc_42 (b_L_law 469 rfl)
set_option maxRecDepth 20000 in
theorem dL_law_470 : decode cL_law 470 = .ok (.iload 4, 2) := dc_21 (b_L_law 471 rfl) (b_L_law 470 rfl)
set_option maxRecDepth 20000 in
theorem dL_law_472 : decode cL_law 472 = .ok (.iconst 1, 1) := dc_4 (b_L_law 472 rfl)
set_option maxRecDepth 20000 in
theorem dL_law_473 : decode cL_law 473 = .ok (.iadd, 1) := dc_96 (b_L_law 473 rfl)
set_option maxRecDepth 20000 in
theorem dL_law_474 : decode cL_law 474 = .ok (.iaload, 1) := dc_46 (b_L_law 474 rfl)
set_option maxRecDepth 20000 in
theorem dL_law_475 : decode cL_law 475 = .ok (.invokevirtual 55, 3) := dc_182 (b_L_law 476 rfl) (b_L_law 477 rfl) rfl (b_L_law 475 rfl)
set_option maxRecDepth 20000 in
theorem dL_law_478 : decode cL_law 478 = .ok (.aload_n 2, 1) := dc_44 (b_L_law 478 rfl)
set_option maxRecDepth 20000 in
theorem dL_law_479 : decode cL_law 479 = .ok (.aload_n 0, 1) := dc_42 (b_L_law 479 rfl)
set_option maxRecDepth 20000 in
theorem dL_law_480 : decode cL_law 480 = .ok (.iload 4, 2) := dc_21 (b_L_law 481 rfl) (b_L_law 480 rfl)
set_option maxRecDepth 20000 in
theorem dL_law_482 : decode cL_law 482 = .ok (.iconst 1, 1) := dc_4 (b_L_law 482 rfl)
set_option maxRecDepth 20000 in
theorem dL_law_483 : decode cL_law 483 = .ok (.iadd, 1) := dc_96 (b_L_law 483 rfl)
set_option maxRecDepth 20000 in
theorem dL_law_484 : decode cL_law 484 = .ok (.iaload, 1) := dc_46 (b_L_law 484 rfl)
set_option maxRecDepth 20000 in
theorem dL_law_485 : decode cL_law 485 = .ok (.invokevirtual 58, 3) := dc_182 (b_L_law 486 rfl) (b_L_law 487 rfl) rfl (b_L_law 485 rfl)
set_option maxRecDepth 20000 in
theorem dL_law_488 : decode cL_law 488 = .ok (.if_icmp .eq 1156, 3) := dc_159 (b_L_law 489 rfl) (b_L_law 490 rfl) rfl (b_L_law 488 rfl)
set_option maxRecDepth 20000 in
theorem dL_law_491 : decode cL_law 491 = .ok (.iconst 0, 1) := dc_3 (b_L_law 491 rfl)
set_option maxRecDepth 20000 in
theorem dL_law_492 : decode cL_law 492 = .ok (.ireturn, 1) := dc_172 (b_L_law 492 rfl)
set_option maxRecDepth 20000 in
theorem dL_law_493 : decode cL_law 493 = .ok (.aload_n 1, 1) := dc_43 (b_L_law 493 rfl)
set_option maxRecDepth 20000 in
theorem dL_law_494 : decode cL_law 494 = .ok (.aload_n 0, 1) := dc_42 (b_L_law 494 rfl)
set_option maxRecDepth 20000 in
theorem dL_law_495 : decode cL_law 495 = .ok (.iload 4, 2) := dc_21 (b_L_law 496 rfl) (b_L_law 495 rfl)
set_option maxRecDepth 20000 in
theorem dL_law_497 : decode cL_law 497 = .ok (.iconst 1, 1) := dc_4 (b_L_law 497 rfl)
set_option maxRecDepth 20000 in
theorem dL_law_498 : decode cL_law 498 = .ok (.iadd, 1) := dc_96 (b_L_law 498 rfl)
set_option maxRecDepth 20000 in
theorem dL_law_499 : decode cL_law 499 = .ok (.iaload, 1) := dc_46 (b_L_law 499 rfl)
set_option maxRecDepth 20000 in
theorem dL_law_500 : decode cL_law 500 = .ok (.invokevirtual 59, 3) := dc_182 (b_L_law 501 rfl) (b_L_law 502 rfl) rfl (b_L_law 500 rfl)
set_option maxRecDepth 20000 in
theorem dL_law_503 : decode cL_law 503 = .ok (.aload_n 2, 1) := dc_44 (b_L_law 503 rfl)
set_option maxRecDepth 20000 in
theorem dL_law_504 : decode cL_law 504 = .ok (.aload_n 0, 1) := dc_42 (b_L_law 504 rfl)
set_option maxRecDepth 20000 in
theorem dL_law_505 : decode cL_law 505 = .ok (.iload 4, 2) := dc_21 (b_L_law 506 rfl) (b_L_law 505 rfl)
set_option maxRecDepth 20000 in
theorem dL_law_507 : decode cL_law 507 = .ok (.iconst 1, 1) := dc_4 (b_L_law 507 rfl)
set_option maxRecDepth 20000 in
theorem dL_law_508 : decode cL_law 508 = .ok (.iadd, 1) := dc_96 (b_L_law 508 rfl)
set_option maxRecDepth 20000 in
theorem dL_law_509 : decode cL_law 509 = .ok (.iaload, 1) := dc_46 (b_L_law 509 rfl)
set_option maxRecDepth 20000 in
theorem dL_law_510 : decode cL_law 510 = .ok (.invokevirtual 62, 3) := dc_182 (b_L_law 511 rfl) (b_L_law 512 rfl) rfl (b_L_law 510 rfl)
set_option maxRecDepth 20000 in
theorem dL_law_513 : decode cL_law 513 = .ok (.if_icmp .eq 1131, 3) := dc_159 (b_L_law 514 rfl) (b_L_law 515 rfl) rfl (b_L_law 513 rfl)
set_option maxRecDepth 20000 in
theorem dL_law_516 : decode cL_law 516 = .ok (.iconst 0, 1) := dc_3 (b_L_law 516 rfl)
set_option maxRecDepth 20000 in
theorem dL_law_517 : decode cL_law 517 = .ok (.ireturn, 1) := dc_172 (b_L_law 517 rfl)
set_option maxRecDepth 20000 in
theorem dL_law_518 : decode cL_law 518 = .ok (.aload_n 1, 1) := dc_43 (b_L_law 518 rfl)
set_option maxRecDepth 20000 in
theorem dL_law_519 : decode cL_law 519 = .ok (.invokevirtual 63, 3) := dc_182 (b_L_law 520 rfl) (b_L_law 521 rfl) rfl (b_L_law 519 rfl)
set_option maxRecDepth 20000 in
theorem dL_law_522 : decode cL_law 522 = .ok (.aload_n 2, 1) := dc_44 (b_L_law 522 rfl)
set_option maxRecDepth 20000 in
theorem dL_law_523 : decode cL_law 523 = .ok (.invokevirtual 67, 3) := dc_182 (b_L_law 524 rfl) (b_L_law 525 rfl) rfl (b_L_law 523 rfl)
set_option maxRecDepth 20000 in
theorem dL_law_526 : decode cL_law 526 = .ok (.if_icmp .eq 1118, 3) := dc_159 (b_L_law 527 rfl) (b_L_law 528 rfl) rfl (b_L_law 526 rfl)
set_option maxRecDepth 20000 in
theorem dL_law_529 : decode cL_law 529 = .ok (.iconst 0, 1) := dc_3 (b_L_law 529 rfl)
set_option maxRecDepth 20000 in
theorem dL_law_530 : decode cL_law 530 = .ok (.ireturn, 1) := dc_172 (b_L_law 530 rfl)
set_option maxRecDepth 20000 in
theorem dL_law_531 : decode cL_law 531 = .ok (.aload_n 1, 1) := dc_43 (b_L_law 531 rfl)
set_option maxRecDepth 20000 in
theorem dL_law_532 : decode cL_law 532 = .ok (.aload_n 0, 1) := dc_42 (b_L_law 532 rfl)
set_option maxRecDepth 20000 in
theorem dL_law_533 : decode cL_law 533 = .ok (.iload 4, 2) := dc_21 (b_L_law 534 rfl) (b_L_law 533 rfl)
set_option maxRecDepth 20000 in
theorem dL_law_535 : decode cL_law 535 = .ok (.iconst 1, 1) := dc_4 (b_L_law 535 rfl)
set_option maxRecDepth 20000 in
theorem dL_law_536 : decode cL_law 536 = .ok (.iadd, 1) := dc_96 (b_L_law 536 rfl)
set_option maxRecDepth 20000 in
theorem dL_law_537 : decode cL_law 537 = .ok (.iaload, 1) := dc_46 (b_L_law 537 rfl)
set_option maxRecDepth 20000 in
theorem dL_law_538 : decode cL_law 538 = .ok (.invokevirtual 68, 3) := dc_182 (b_L_law 539 rfl) (b_L_law 540 rfl) rfl (b_L_law 538 rfl)
set_option maxRecDepth 20000 in
theorem dL_law_541 : decode cL_law 541 = .ok (.aload_n 2, 1) := dc_44 (b_L_law 541 rfl)
set_option maxRecDepth 20000 in
theorem dL_law_542 : decode cL_law 542 = .ok (.aload_n 0, 1) := dc_42 (b_L_law 542 rfl)
set_option maxRecDepth 20000 in
theorem dL_law_543 : decode cL_law 543 = .ok (.iload 4, 2) := dc_21 (b_L_law 544 rfl) (b_L_law 543 rfl)
set_option maxRecDepth 20000 in
theorem dL_law_545 : decode cL_law 545 = .ok (.iconst 1, 1) := dc_4 (b_L_law 545 rfl)
set_option maxRecDepth 20000 in
theorem dL_law_546 : decode cL_law 546 = .ok (.iadd, 1) := dc_96 (b_L_law 546 rfl)
set_option maxRecDepth 20000 in
theorem dL_law_547 : decode cL_law 547 = .ok (.iaload, 1) := dc_46 (b_L_law 547 rfl)
set_option maxRecDepth 20000 in
theorem dL_law_548 : decode cL_law 548 = .ok (.invokevirtual 71, 3) := dc_182 (b_L_law 549 rfl) (b_L_law 550 rfl) rfl (b_L_law 548 rfl)
set_option maxRecDepth 20000 in
theorem dL_law_551 : decode cL_law 551 = .ok (.if_icmp .eq 1093, 3) := dc_159 (b_L_law 552 rfl) (b_L_law 553 rfl) rfl (b_L_law 551 rfl)
set_option maxRecDepth 20000 in
theorem dL_law_554 : decode cL_law 554 = .ok (.iconst 0, 1) := dc_3 (b_L_law 554 rfl)
set_option maxRecDepth 20000 in
theorem dL_law_555 : decode cL_law 555 = .ok (.ireturn, 1) := dc_172 (b_L_law 555 rfl)
set_option maxRecDepth 20000 in
theorem dL_law_556 : decode cL_law 556 = .ok (.aload_n 1, 1) := dc_43 (b_L_law 556 rfl)
set_option maxRecDepth 20000 in
theorem dL_law_557 : decode cL_law 557 = .ok (.aload_n 0, 1) := dc_42 (b_L_law 557 rfl)
set_option maxRecDepth 20000 in
theorem dL_law_558 : decode cL_law 558 = .ok (.iload 4, 2) := dc_21 (b_L_law 559 rfl) (b_L_law 558 rfl)
set_option maxRecDepth 20000 in
theorem dL_law_560 : decode cL_law 560 = .ok (.iconst 1, 1) := dc_4 (b_L_law 560 rfl)
set_option maxRecDepth 20000 in
theorem dL_law_561 : decode cL_law 561 = .ok (.iadd, 1) := dc_96 (b_L_law 561 rfl)
set_option maxRecDepth 20000 in
theorem dL_law_562 : decode cL_law 562 = .ok (.iaload, 1) := dc_46 (b_L_law 562 rfl)
set_option maxRecDepth 20000 in
theorem dL_law_563 : decode cL_law 563 = .ok (.aload_n 0, 1) := dc_42 (b_L_law 563 rfl)
set_option maxRecDepth 20000 in
theorem dL_law_564 : decode cL_law 564 = .ok (.iload 4, 2) := dc_21 (b_L_law 565 rfl) (b_L_law 564 rfl)
set_option maxRecDepth 20000 in
theorem dL_law_566 : decode cL_law 566 = .ok (.iconst 2, 1) := dc_5 (b_L_law 566 rfl)
set_option maxRecDepth 20000 in
theorem dL_law_567 : decode cL_law 567 = .ok (.iadd, 1) := dc_96 (b_L_law 567 rfl)
set_option maxRecDepth 20000 in
theorem dL_law_568 : decode cL_law 568 = .ok (.iaload, 1) := dc_46 (b_L_law 568 rfl)
set_option maxRecDepth 20000 in
theorem dL_law_569 : decode cL_law 569 = .ok (.invokevirtual 72, 3) := dc_182 (b_L_law 570 rfl) (b_L_law 571 rfl) rfl (b_L_law 569 rfl)
set_option maxRecDepth 20000 in
theorem dL_law_572 : decode cL_law 572 = .ok (.aload_n 2, 1) := dc_44 (b_L_law 572 rfl)
set_option maxRecDepth 20000 in
theorem dL_law_573 : decode cL_law 573 = .ok (.aload_n 0, 1) := dc_42 (b_L_law 573 rfl)
set_option maxRecDepth 20000 in
theorem dL_law_574 : decode cL_law 574 = .ok (.iload 4, 2) := dc_21 (b_L_law 575 rfl) (b_L_law 574 rfl)
set_option maxRecDepth 20000 in
theorem dL_law_576 : decode cL_law 576 = .ok (.iconst 1, 1) := dc_4 (b_L_law 576 rfl)
set_option maxRecDepth 20000 in
theorem dL_law_577 : decode cL_law 577 = .ok (.iadd, 1) := dc_96 (b_L_law 577 rfl)
set_option maxRecDepth 20000 in
theorem dL_law_578 : decode cL_law 578 = .ok (.iaload, 1) := dc_46 (b_L_law 578 rfl)
set_option maxRecDepth 20000 in
theorem dL_law_579 : decode cL_law 579 = .ok (.aload_n 0, 1) := dc_42 (b_L_law 579 rfl)
set_option maxRecDepth 20000 in
theorem dL_law_580 : decode cL_law 580 = .ok (.iload 4, 2) := dc_21 (b_L_law 581 rfl) (b_L_law 580 rfl)
set_option maxRecDepth 20000 in
theorem dL_law_582 : decode cL_law 582 = .ok (.iconst 2, 1) := dc_5 (b_L_law 582 rfl)
set_option maxRecDepth 20000 in
theorem dL_law_583 : decode cL_law 583 = .ok (.iadd, 1) := dc_96 (b_L_law 583 rfl)
set_option maxRecDepth 20000 in
theorem dL_law_584 : decode cL_law 584 = .ok (.iaload, 1) := dc_46 (b_L_law 584 rfl)
set_option maxRecDepth 20000 in
theorem dL_law_585 : decode cL_law 585 = .ok (.invokevirtual 75, 3) := dc_182 (b_L_law 586 rfl) (b_L_law 587 rfl) rfl (b_L_law 585 rfl)
set_option maxRecDepth 20000 in
theorem dL_law_588 : decode cL_law 588 = .ok (.if_icmp .eq 1056, 3) := dc_159 (b_L_law 589 rfl) (b_L_law 590 rfl) rfl (b_L_law 588 rfl)
set_option maxRecDepth 20000 in
theorem dL_law_591 : decode cL_law 591 = .ok (.iconst 0, 1) := dc_3 (b_L_law 591 rfl)
set_option maxRecDepth 20000 in
theorem dL_law_592 : decode cL_law 592 = .ok (.ireturn, 1) := dc_172 (b_L_law 592 rfl)
set_option maxRecDepth 20000 in
theorem dL_law_593 : decode cL_law 593 = .ok (.aload_n 1, 1) := dc_43 (b_L_law 593 rfl)
set_option maxRecDepth 20000 in
theorem dL_law_594 : decode cL_law 594 = .ok (.aload_n 0, 1) := dc_42 (b_L_law 594 rfl)
set_option maxRecDepth 20000 in
theorem dL_law_595 : decode cL_law 595 = .ok (.iload 4, 2) := dc_21 (b_L_law 596 rfl) (b_L_law 595 rfl)
set_option maxRecDepth 20000 in
theorem dL_law_597 : decode cL_law 597 = .ok (.iconst 1, 1) := dc_4 (b_L_law 597 rfl)
set_option maxRecDepth 20000 in
theorem dL_law_598 : decode cL_law 598 = .ok (.iadd, 1) := dc_96 (b_L_law 598 rfl)
set_option maxRecDepth 20000 in
theorem dL_law_599 : decode cL_law 599 = .ok (.iaload, 1) := dc_46 (b_L_law 599 rfl)
set_option maxRecDepth 20000 in
theorem dL_law_600 : decode cL_law 600 = .ok (.aload_n 0, 1) := dc_42 (b_L_law 600 rfl)
set_option maxRecDepth 20000 in
theorem dL_law_601 : decode cL_law 601 = .ok (.iload 4, 2) := dc_21 (b_L_law 602 rfl) (b_L_law 601 rfl)
set_option maxRecDepth 20000 in
theorem dL_law_603 : decode cL_law 603 = .ok (.iconst 2, 1) := dc_5 (b_L_law 603 rfl)
set_option maxRecDepth 20000 in
theorem dL_law_604 : decode cL_law 604 = .ok (.iadd, 1) := dc_96 (b_L_law 604 rfl)
set_option maxRecDepth 20000 in
theorem dL_law_605 : decode cL_law 605 = .ok (.iaload, 1) := dc_46 (b_L_law 605 rfl)
set_option maxRecDepth 20000 in
theorem dL_law_606 : decode cL_law 606 = .ok (.invokevirtual 76, 3) := dc_182 (b_L_law 607 rfl) (b_L_law 608 rfl) rfl (b_L_law 606 rfl)
set_option maxRecDepth 20000 in
theorem dL_law_609 : decode cL_law 609 = .ok (.aload_n 2, 1) := dc_44 (b_L_law 609 rfl)
set_option maxRecDepth 20000 in
theorem dL_law_610 : decode cL_law 610 = .ok (.aload_n 0, 1) := dc_42 (b_L_law 610 rfl)
set_option maxRecDepth 20000 in
theorem dL_law_611 : decode cL_law 611 = .ok (.iload 4, 2) := dc_21 (b_L_law 612 rfl) (b_L_law 611 rfl)
set_option maxRecDepth 20000 in
theorem dL_law_613 : decode cL_law 613 = .ok (.iconst 1, 1) := dc_4 (b_L_law 613 rfl)
set_option maxRecDepth 20000 in
theorem dL_law_614 : decode cL_law 614 = .ok (.iadd, 1) := dc_96 (b_L_law 614 rfl)
set_option maxRecDepth 20000 in
theorem dL_law_615 : decode cL_law 615 = .ok (.iaload, 1) := dc_46 (b_L_law 615 rfl)
set_option maxRecDepth 20000 in
theorem dL_law_616 : decode cL_law 616 = .ok (.aload_n 0, 1) := dc_42 (b_L_law 616 rfl)
set_option maxRecDepth 20000 in
theorem dL_law_617 : decode cL_law 617 = .ok (.iload 4, 2) := dc_21 (b_L_law 618 rfl) (b_L_law 617 rfl)
set_option maxRecDepth 20000 in
theorem dL_law_619 : decode cL_law 619 = .ok (.iconst 2, 1) := dc_5 (b_L_law 619 rfl)
set_option maxRecDepth 20000 in
theorem dL_law_620 : decode cL_law 620 = .ok (.iadd, 1) := dc_96 (b_L_law 620 rfl)
set_option maxRecDepth 20000 in
theorem dL_law_621 : decode cL_law 621 = .ok (.iaload, 1) := dc_46 (b_L_law 621 rfl)
set_option maxRecDepth 20000 in
theorem dL_law_622 : decode cL_law 622 = .ok (.invokevirtual 79, 3) := dc_182 (b_L_law 623 rfl) (b_L_law 624 rfl) rfl (b_L_law 622 rfl)
set_option maxRecDepth 20000 in
theorem dL_law_625 : decode cL_law 625 = .ok (.if_icmp .eq 1019, 3) := dc_159 (b_L_law 626 rfl) (b_L_law 627 rfl) rfl (b_L_law 625 rfl)
set_option maxRecDepth 20000 in
theorem dL_law_628 : decode cL_law 628 = .ok (.iconst 0, 1) := dc_3 (b_L_law 628 rfl)
set_option maxRecDepth 20000 in
theorem dL_law_629 : decode cL_law 629 = .ok (.ireturn, 1) := dc_172 (b_L_law 629 rfl)
set_option maxRecDepth 20000 in
theorem dL_law_630 : decode cL_law 630 = .ok (.aload_n 1, 1) := dc_43 (b_L_law 630 rfl)
set_option maxRecDepth 20000 in
theorem dL_law_631 : decode cL_law 631 = .ok (.aload_n 0, 1) := dc_42 (b_L_law 631 rfl)
set_option maxRecDepth 20000 in
theorem dL_law_632 : decode cL_law 632 = .ok (.iload 4, 2) := dc_21 (b_L_law 633 rfl) (b_L_law 632 rfl)
set_option maxRecDepth 20000 in
theorem dL_law_634 : decode cL_law 634 = .ok (.iconst 1, 1) := dc_4 (b_L_law 634 rfl)
set_option maxRecDepth 20000 in
theorem dL_law_635 : decode cL_law 635 = .ok (.iadd, 1) := dc_96 (b_L_law 635 rfl)
set_option maxRecDepth 20000 in
theorem dL_law_636 : decode cL_law 636 = .ok (.iaload, 1) := dc_46 (b_L_law 636 rfl)
set_option maxRecDepth 20000 in
theorem dL_law_637 : decode cL_law 637 = .ok (.aload_n 0, 1) := dc_42 (b_L_law 637 rfl)
set_option maxRecDepth 20000 in
theorem dL_law_638 : decode cL_law 638 = .ok (.iload 4, 2) := dc_21 (b_L_law 639 rfl) (b_L_law 638 rfl)
set_option maxRecDepth 20000 in
theorem dL_law_640 : decode cL_law 640 = .ok (.iconst 2, 1) := dc_5 (b_L_law 640 rfl)
set_option maxRecDepth 20000 in
theorem dL_law_641 : decode cL_law 641 = .ok (.iadd, 1) := dc_96 (b_L_law 641 rfl)
set_option maxRecDepth 20000 in
theorem dL_law_642 : decode cL_law 642 = .ok (.iaload, 1) := dc_46 (b_L_law 642 rfl)
set_option maxRecDepth 20000 in
theorem dL_law_643 : decode cL_law 643 = .ok (.invokevirtual 80, 3) := dc_182 (b_L_law 644 rfl) (b_L_law 645 rfl) rfl (b_L_law 643 rfl)
set_option maxRecDepth 20000 in
theorem dL_law_646 : decode cL_law 646 = .ok (.aload_n 2, 1) := dc_44 (b_L_law 646 rfl)
set_option maxRecDepth 20000 in
theorem dL_law_647 : decode cL_law 647 = .ok (.aload_n 0, 1) := dc_42 (b_L_law 647 rfl)
set_option maxRecDepth 20000 in
theorem dL_law_648 : decode cL_law 648 = .ok (.iload 4, 2) := dc_21 (b_L_law 649 rfl) (b_L_law 648 rfl)
set_option maxRecDepth 20000 in
theorem dL_law_650 : decode cL_law 650 = .ok (.iconst 1, 1) := dc_4 (b_L_law 650 rfl)
set_option maxRecDepth 20000 in
theorem dL_law_651 : decode cL_law 651 = .ok (.iadd, 1) := dc_96 (b_L_law 651 rfl)
set_option maxRecDepth 20000 in
theorem dL_law_652 : decode cL_law 652 = .ok (.iaload, 1) := dc_46 (b_L_law 652 rfl)
set_option maxRecDepth 20000 in
theorem dL_law_653 : decode cL_law 653 = .ok (.aload_n 0, 1) := dc_42 (b_L_law 653 rfl)
set_option maxRecDepth 20000 in
theorem dL_law_654 : decode cL_law 654 = .ok (.iload 4, 2) := dc_21 (b_L_law 655 rfl) (b_L_law 654 rfl)
set_option maxRecDepth 20000 in
theorem dL_law_656 : decode cL_law 656 = .ok (.iconst 2, 1) := dc_5 (b_L_law 656 rfl)
set_option maxRecDepth 20000 in
theorem dL_law_657 : decode cL_law 657 = .ok (.iadd, 1) := dc_96 (b_L_law 657 rfl)
set_option maxRecDepth 20000 in
theorem dL_law_658 : decode cL_law 658 = .ok (.iaload, 1) := dc_46 (b_L_law 658 rfl)
set_option maxRecDepth 20000 in
theorem dL_law_659 : decode cL_law 659 = .ok (.invokevirtual 83, 3) := dc_182 (b_L_law 660 rfl) (b_L_law 661 rfl) rfl (b_L_law 659 rfl)
set_option maxRecDepth 20000 in
theorem dL_law_662 : decode cL_law 662 = .ok (.if_icmp .eq 982, 3) := dc_159 (b_L_law 663 rfl) (b_L_law 664 rfl) rfl (b_L_law 662 rfl)
set_option maxRecDepth 20000 in
theorem dL_law_665 : decode cL_law 665 = .ok (.iconst 0, 1) := dc_3 (b_L_law 665 rfl)
set_option maxRecDepth 20000 in
theorem dL_law_666 : decode cL_law 666 = .ok (.ireturn, 1) := dc_172 (b_L_law 666 rfl)
set_option maxRecDepth 20000 in
theorem dL_law_667 : decode cL_law 667 = .ok (.aload_n 1, 1) := dc_43 (b_L_law 667 rfl)
set_option maxRecDepth 20000 in
theorem dL_law_668 : decode cL_law 668 = .ok (.aload_n 0, 1) := dc_42 (b_L_law 668 rfl)
set_option maxRecDepth 20000 in
theorem dL_law_669 : decode cL_law 669 = .ok (.iload 4, 2) := dc_21 (b_L_law 670 rfl) (b_L_law 669 rfl)
set_option maxRecDepth 20000 in
theorem dL_law_671 : decode cL_law 671 = .ok (.iconst 1, 1) := dc_4 (b_L_law 671 rfl)
set_option maxRecDepth 20000 in
theorem dL_law_672 : decode cL_law 672 = .ok (.iadd, 1) := dc_96 (b_L_law 672 rfl)
set_option maxRecDepth 20000 in
theorem dL_law_673 : decode cL_law 673 = .ok (.iaload, 1) := dc_46 (b_L_law 673 rfl)
set_option maxRecDepth 20000 in
theorem dL_law_674 : decode cL_law 674 = .ok (.aload_n 0, 1) := dc_42 (b_L_law 674 rfl)
set_option maxRecDepth 20000 in
theorem dL_law_675 : decode cL_law 675 = .ok (.iload 4, 2) := dc_21 (b_L_law 676 rfl) (b_L_law 675 rfl)
set_option maxRecDepth 20000 in
theorem dL_law_677 : decode cL_law 677 = .ok (.iconst 2, 1) := dc_5 (b_L_law 677 rfl)
set_option maxRecDepth 20000 in
theorem dL_law_678 : decode cL_law 678 = .ok (.iadd, 1) := dc_96 (b_L_law 678 rfl)
set_option maxRecDepth 20000 in
theorem dL_law_679 : decode cL_law 679 = .ok (.iaload, 1) := dc_46 (b_L_law 679 rfl)
set_option maxRecDepth 20000 in
theorem dL_law_680 : decode cL_law 680 = .ok (.aload_n 0, 1) := dc_42 (b_L_law 680 rfl)
set_option maxRecDepth 20000 in
theorem dL_law_681 : decode cL_law 681 = .ok (.iload 4, 2) := dc_21 (b_L_law 682 rfl) (b_L_law 681 rfl)
set_option maxRecDepth 20000 in
theorem dL_law_683 : decode cL_law 683 = .ok (.iconst 3, 1) := dc_6 (b_L_law 683 rfl)
set_option maxRecDepth 20000 in
theorem dL_law_684 : decode cL_law 684 = .ok (.iadd, 1) := dc_96 (b_L_law 684 rfl)
set_option maxRecDepth 20000 in
theorem dL_law_685 : decode cL_law 685 = .ok (.iaload, 1) := dc_46 (b_L_law 685 rfl)
set_option maxRecDepth 20000 in
theorem dL_law_686 : decode cL_law 686 = .ok (.aload_n 0, 1) := dc_42 (b_L_law 686 rfl)
set_option maxRecDepth 20000 in
theorem dL_law_687 : decode cL_law 687 = .ok (.iload 4, 2) := dc_21 (b_L_law 688 rfl) (b_L_law 687 rfl)
set_option maxRecDepth 20000 in
theorem dL_law_689 : decode cL_law 689 = .ok (.iconst 4, 1) := dc_7 (b_L_law 689 rfl)
set_option maxRecDepth 20000 in
theorem dL_law_690 : decode cL_law 690 = .ok (.iadd, 1) := dc_96 (b_L_law 690 rfl)
set_option maxRecDepth 20000 in
theorem dL_law_691 : decode cL_law 691 = .ok (.iaload, 1) := dc_46 (b_L_law 691 rfl)
set_option maxRecDepth 20000 in
theorem dL_law_692 : decode cL_law 692 = .ok (.invokevirtual 84, 3) := dc_182 (b_L_law 693 rfl) (b_L_law 694 rfl) rfl (b_L_law 692 rfl)
set_option maxRecDepth 20000 in
theorem dL_law_695 : decode cL_law 695 = .ok (.aload_n 2, 1) := dc_44 (b_L_law 695 rfl)
set_option maxRecDepth 20000 in
theorem dL_law_696 : decode cL_law 696 = .ok (.aload_n 0, 1) := dc_42 (b_L_law 696 rfl)
set_option maxRecDepth 20000 in
theorem dL_law_697 : decode cL_law 697 = .ok (.iload 4, 2) := dc_21 (b_L_law 698 rfl) (b_L_law 697 rfl)
set_option maxRecDepth 20000 in
theorem dL_law_699 : decode cL_law 699 = .ok (.iconst 1, 1) := dc_4 (b_L_law 699 rfl)
set_option maxRecDepth 20000 in
theorem dL_law_700 : decode cL_law 700 = .ok (.iadd, 1) := dc_96 (b_L_law 700 rfl)
set_option maxRecDepth 20000 in
theorem dL_law_701 : decode cL_law 701 = .ok (.iaload, 1) := dc_46 (b_L_law 701 rfl)
set_option maxRecDepth 20000 in
theorem dL_law_702 : decode cL_law 702 = .ok (.aload_n 0, 1) := dc_42 (b_L_law 702 rfl)
set_option maxRecDepth 20000 in
theorem dL_law_703 : decode cL_law 703 = .ok (.iload 4, 2) := dc_21 (b_L_law 704 rfl) (b_L_law 703 rfl)
set_option maxRecDepth 20000 in
theorem dL_law_705 : decode cL_law 705 = .ok (.iconst 2, 1) := dc_5 (b_L_law 705 rfl)
set_option maxRecDepth 20000 in
theorem dL_law_706 : decode cL_law 706 = .ok (.iadd, 1) := dc_96 (b_L_law 706 rfl)
set_option maxRecDepth 20000 in
theorem dL_law_707 : decode cL_law 707 = .ok (.iaload, 1) := dc_46 (b_L_law 707 rfl)
set_option maxRecDepth 20000 in
theorem dL_law_708 : decode cL_law 708 = .ok (.aload_n 0, 1) := dc_42 (b_L_law 708 rfl)
set_option maxRecDepth 20000 in
theorem dL_law_709 : decode cL_law 709 = .ok (.iload 4, 2) := dc_21 (b_L_law 710 rfl) (b_L_law 709 rfl)
set_option maxRecDepth 20000 in
theorem dL_law_711 : decode cL_law 711 = .ok (.iconst 3, 1) := dc_6 (b_L_law 711 rfl)
set_option maxRecDepth 20000 in
theorem dL_law_712 : decode cL_law 712 = .ok (.iadd, 1) := dc_96 (b_L_law 712 rfl)
set_option maxRecDepth 20000 in
theorem dL_law_713 : decode cL_law 713 = .ok (.iaload, 1) := dc_46 (b_L_law 713 rfl)
set_option maxRecDepth 20000 in
theorem dL_law_714 : decode cL_law 714 = .ok (.aload_n 0, 1) := dc_42 (b_L_law 714 rfl)
set_option maxRecDepth 20000 in
theorem dL_law_715 : decode cL_law 715 = .ok (.iload 4, 2) := dc_21 (b_L_law 716 rfl) (b_L_law 715 rfl)
set_option maxRecDepth 20000 in
theorem dL_law_717 : decode cL_law 717 = .ok (.iconst 4, 1) := dc_7 (b_L_law 717 rfl)
set_option maxRecDepth 20000 in
theorem dL_law_718 : decode cL_law 718 = .ok (.iadd, 1) := dc_96 (b_L_law 718 rfl)
set_option maxRecDepth 20000 in
theorem dL_law_719 : decode cL_law 719 = .ok (.iaload, 1) := dc_46 (b_L_law 719 rfl)
set_option maxRecDepth 20000 in
theorem dL_law_720 : decode cL_law 720 = .ok (.invokevirtual 88, 3) := dc_182 (b_L_law 721 rfl) (b_L_law 722 rfl) rfl (b_L_law 720 rfl)
set_option maxRecDepth 20000 in
theorem dL_law_723 : decode cL_law 723 = .ok (.if_icmp .eq 921, 3) := dc_159 (b_L_law 724 rfl) (b_L_law 725 rfl) rfl (b_L_law 723 rfl)
set_option maxRecDepth 20000 in
theorem dL_law_726 : decode cL_law 726 = .ok (.iconst 0, 1) := dc_3 (b_L_law 726 rfl)
set_option maxRecDepth 20000 in
theorem dL_law_727 : decode cL_law 727 = .ok (.ireturn, 1) := dc_172 (b_L_law 727 rfl)
set_option maxRecDepth 20000 in
theorem dL_law_728 : decode cL_law 728 = .ok (.aload_n 1, 1) := dc_43 (b_L_law 728 rfl)
set_option maxRecDepth 20000 in
theorem dL_law_729 : decode cL_law 729 = .ok (.aload_n 0, 1) := dc_42 (b_L_law 729 rfl)
set_option maxRecDepth 20000 in
theorem dL_law_730 : decode cL_law 730 = .ok (.iload 4, 2) := dc_21 (b_L_law 731 rfl) (b_L_law 730 rfl)
set_option maxRecDepth 20000 in
theorem dL_law_732 : decode cL_law 732 = .ok (.iconst 1, 1) := dc_4 (b_L_law 732 rfl)
set_option maxRecDepth 20000 in
theorem dL_law_733 : decode cL_law 733 = .ok (.iadd, 1) := dc_96 (b_L_law 733 rfl)
set_option maxRecDepth 20000 in
theorem dL_law_734 : decode cL_law 734 = .ok (.iaload, 1) := dc_46 (b_L_law 734 rfl)
set_option maxRecDepth 20000 in
theorem dL_law_735 : decode cL_law 735 = .ok (.aload_n 0, 1) := dc_42 (b_L_law 735 rfl)
set_option maxRecDepth 20000 in
theorem dL_law_736 : decode cL_law 736 = .ok (.iload 4, 2) := dc_21 (b_L_law 737 rfl) (b_L_law 736 rfl)
set_option maxRecDepth 20000 in
theorem dL_law_738 : decode cL_law 738 = .ok (.iconst 2, 1) := dc_5 (b_L_law 738 rfl)
set_option maxRecDepth 20000 in
theorem dL_law_739 : decode cL_law 739 = .ok (.iadd, 1) := dc_96 (b_L_law 739 rfl)
set_option maxRecDepth 20000 in
theorem dL_law_740 : decode cL_law 740 = .ok (.iaload, 1) := dc_46 (b_L_law 740 rfl)
set_option maxRecDepth 20000 in
theorem dL_law_741 : decode cL_law 741 = .ok (.aload_n 0, 1) := dc_42 (b_L_law 741 rfl)
set_option maxRecDepth 20000 in
theorem dL_law_742 : decode cL_law 742 = .ok (.iload 4, 2) := dc_21 (b_L_law 743 rfl) (b_L_law 742 rfl)
set_option maxRecDepth 20000 in
theorem dL_law_744 : decode cL_law 744 = .ok (.iconst 3, 1) := dc_6 (b_L_law 744 rfl)
set_option maxRecDepth 20000 in
theorem dL_law_745 : decode cL_law 745 = .ok (.iadd, 1) := dc_96 (b_L_law 745 rfl)
set_option maxRecDepth 20000 in
theorem dL_law_746 : decode cL_law 746 = .ok (.iaload, 1) := dc_46 (b_L_law 746 rfl)
set_option maxRecDepth 20000 in
theorem dL_law_747 : decode cL_law 747 = .ok (.aload_n 0, 1) := dc_42 (b_L_law 747 rfl)
set_option maxRecDepth 20000 in
theorem dL_law_748 : decode cL_law 748 = .ok (.iload 4, 2) := dc_21 (b_L_law 749 rfl) (b_L_law 748 rfl)
set_option maxRecDepth 20000 in
theorem dL_law_750 : decode cL_law 750 = .ok (.iconst 4, 1) := dc_7 (b_L_law 750 rfl)
set_option maxRecDepth 20000 in
theorem dL_law_751 : decode cL_law 751 = .ok (.iadd, 1) := dc_96 (b_L_law 751 rfl)
set_option maxRecDepth 20000 in
theorem dL_law_752 : decode cL_law 752 = .ok (.iaload, 1) := dc_46 (b_L_law 752 rfl)
set_option maxRecDepth 20000 in
theorem dL_law_753 : decode cL_law 753 = .ok (.aload_n 0, 1) := dc_42 (b_L_law 753 rfl)
set_option maxRecDepth 20000 in
theorem dL_law_754 : decode cL_law 754 = .ok (.iload 4, 2) := dc_21 (b_L_law 755 rfl) (b_L_law 754 rfl)
set_option maxRecDepth 20000 in
theorem dL_law_756 : decode cL_law 756 = .ok (.iconst 5, 1) := dc_8 (b_L_law 756 rfl)
set_option maxRecDepth 20000 in
theorem dL_law_757 : decode cL_law 757 = .ok (.iadd, 1) := dc_96 (b_L_law 757 rfl)
set_option maxRecDepth 20000 in
theorem dL_law_758 : decode cL_law 758 = .ok (.iaload, 1) := dc_46 (b_L_law 758 rfl)
set_option maxRecDepth 20000 in
theorem dL_law_759 : decode cL_law 759 = .ok (.invokevirtual 89, 3) := dc_182 (b_L_law 760 rfl) (b_L_law 761 rfl) rfl (b_L_law 759 rfl)
set_option maxRecDepth 20000 in
theorem dL_law_762 : decode cL_law 762 = .ok (.aload_n 2, 1) := dc_44 (b_L_law 762 rfl)
set_option maxRecDepth 20000 in
theorem dL_law_763 : decode cL_law 763 = .ok (.aload_n 0, 1) := dc_42 (b_L_law 763 rfl)
set_option maxRecDepth 20000 in
theorem dL_law_764 : decode cL_law 764 = .ok (.iload 4, 2) := dc_21 (b_L_law 765 rfl) (b_L_law 764 rfl)
set_option maxRecDepth 20000 in
theorem dL_law_766 : decode cL_law 766 = .ok (.iconst 1, 1) := dc_4 (b_L_law 766 rfl)
set_option maxRecDepth 20000 in
theorem dL_law_767 : decode cL_law 767 = .ok (.iadd, 1) := dc_96 (b_L_law 767 rfl)
set_option maxRecDepth 20000 in
theorem dL_law_768 : decode cL_law 768 = .ok (.iaload, 1) := dc_46 (b_L_law 768 rfl)
set_option maxRecDepth 20000 in
theorem dL_law_769 : decode cL_law 769 = .ok (.aload_n 0, 1) := dc_42 (b_L_law 769 rfl)
set_option maxRecDepth 20000 in
theorem dL_law_770 : decode cL_law 770 = .ok (.iload 4, 2) := dc_21 (b_L_law 771 rfl) (b_L_law 770 rfl)
set_option maxRecDepth 20000 in
theorem dL_law_772 : decode cL_law 772 = .ok (.iconst 2, 1) := dc_5 (b_L_law 772 rfl)
set_option maxRecDepth 20000 in
theorem dL_law_773 : decode cL_law 773 = .ok (.iadd, 1) := dc_96 (b_L_law 773 rfl)
set_option maxRecDepth 20000 in
theorem dL_law_774 : decode cL_law 774 = .ok (.iaload, 1) := dc_46 (b_L_law 774 rfl)
set_option maxRecDepth 20000 in
theorem dL_law_775 : decode cL_law 775 = .ok (.aload_n 0, 1) := dc_42 (b_L_law 775 rfl)
set_option maxRecDepth 20000 in
theorem dL_law_776 : decode cL_law 776 = .ok (.iload 4, 2) := dc_21 (b_L_law 777 rfl) (b_L_law 776 rfl)
set_option maxRecDepth 20000 in
theorem dL_law_778 : decode cL_law 778 = .ok (.iconst 3, 1) := dc_6 (b_L_law 778 rfl)
set_option maxRecDepth 20000 in
theorem dL_law_779 : decode cL_law 779 = .ok (.iadd, 1) := dc_96 (b_L_law 779 rfl)
set_option maxRecDepth 20000 in
theorem dL_law_780 : decode cL_law 780 = .ok (.iaload, 1) := dc_46 (b_L_law 780 rfl)
set_option maxRecDepth 20000 in
theorem dL_law_781 : decode cL_law 781 = .ok (.aload_n 0, 1) := dc_42 (b_L_law 781 rfl)
set_option maxRecDepth 20000 in
theorem dL_law_782 : decode cL_law 782 = .ok (.iload 4, 2) := dc_21 (b_L_law 783 rfl) (b_L_law 782 rfl)
set_option maxRecDepth 20000 in
theorem dL_law_784 : decode cL_law 784 = .ok (.iconst 4, 1) := dc_7 (b_L_law 784 rfl)
set_option maxRecDepth 20000 in
theorem dL_law_785 : decode cL_law 785 = .ok (.iadd, 1) := dc_96 (b_L_law 785 rfl)
set_option maxRecDepth 20000 in
theorem dL_law_786 : decode cL_law 786 = .ok (.iaload, 1) := dc_46 (b_L_law 786 rfl)
set_option maxRecDepth 20000 in
theorem dL_law_787 : decode cL_law 787 = .ok (.aload_n 0, 1) := dc_42 (b_L_law 787 rfl)
set_option maxRecDepth 20000 in
theorem dL_law_788 : decode cL_law 788 = .ok (.iload 4, 2) := dc_21 (b_L_law 789 rfl) (b_L_law 788 rfl)
set_option maxRecDepth 20000 in
theorem dL_law_790 : decode cL_law 790 = .ok (.iconst 5, 1) := dc_8 (b_L_law 790 rfl)
set_option maxRecDepth 20000 in
theorem dL_law_791 : decode cL_law 791 = .ok (.iadd, 1) := dc_96 (b_L_law 791 rfl)
set_option maxRecDepth 20000 in
theorem dL_law_792 : decode cL_law 792 = .ok (.iaload, 1) := dc_46 (b_L_law 792 rfl)
set_option maxRecDepth 20000 in
theorem dL_law_793 : decode cL_law 793 = .ok (.invokevirtual 93, 3) := dc_182 (b_L_law 794 rfl) (b_L_law 795 rfl) rfl (b_L_law 793 rfl)
set_option maxRecDepth 20000 in
theorem dL_law_796 : decode cL_law 796 = .ok (.if_icmp .eq 848, 3) := dc_159 (b_L_law 797 rfl) (b_L_law 798 rfl) rfl (b_L_law 796 rfl)
set_option maxRecDepth 20000 in
theorem dL_law_799 : decode cL_law 799 = .ok (.iconst 0, 1) := dc_3 (b_L_law 799 rfl)
set_option maxRecDepth 20000 in
theorem dL_law_800 : decode cL_law 800 = .ok (.ireturn, 1) := dc_172 (b_L_law 800 rfl)
set_option maxRecDepth 20000 in
theorem dL_law_801 : decode cL_law 801 = .ok (.aload_n 1, 1) := dc_43 (b_L_law 801 rfl)
set_option maxRecDepth 20000 in
theorem dL_law_802 : decode cL_law 802 = .ok (.aload_n 0, 1) := dc_42 (b_L_law 802 rfl)
set_option maxRecDepth 20000 in
theorem dL_law_803 : decode cL_law 803 = .ok (.iload 4, 2) := dc_21 (b_L_law 804 rfl) (b_L_law 803 rfl)
set_option maxRecDepth 20000 in
theorem dL_law_805 : decode cL_law 805 = .ok (.iconst 1, 1) := dc_4 (b_L_law 805 rfl)
set_option maxRecDepth 20000 in
theorem dL_law_806 : decode cL_law 806 = .ok (.iadd, 1) := dc_96 (b_L_law 806 rfl)
set_option maxRecDepth 20000 in
theorem dL_law_807 : decode cL_law 807 = .ok (.iaload, 1) := dc_46 (b_L_law 807 rfl)
set_option maxRecDepth 20000 in
theorem dL_law_808 : decode cL_law 808 = .ok (.aload_n 0, 1) := dc_42 (b_L_law 808 rfl)
set_option maxRecDepth 20000 in
theorem dL_law_809 : decode cL_law 809 = .ok (.iload 4, 2) := dc_21 (b_L_law 810 rfl) (b_L_law 809 rfl)
set_option maxRecDepth 20000 in
theorem dL_law_811 : decode cL_law 811 = .ok (.iconst 2, 1) := dc_5 (b_L_law 811 rfl)
set_option maxRecDepth 20000 in
theorem dL_law_812 : decode cL_law 812 = .ok (.iadd, 1) := dc_96 (b_L_law 812 rfl)
set_option maxRecDepth 20000 in
theorem dL_law_813 : decode cL_law 813 = .ok (.iaload, 1) := dc_46 (b_L_law 813 rfl)
set_option maxRecDepth 20000 in
theorem dL_law_814 : decode cL_law 814 = .ok (.invokevirtual 94, 3) := dc_182 (b_L_law 815 rfl) (b_L_law 816 rfl) rfl (b_L_law 814 rfl)
set_option maxRecDepth 20000 in
theorem dL_law_817 : decode cL_law 817 = .ok (.aload_n 2, 1) := dc_44 (b_L_law 817 rfl)
set_option maxRecDepth 20000 in
theorem dL_law_818 : decode cL_law 818 = .ok (.aload_n 0, 1) := dc_42 (b_L_law 818 rfl)
set_option maxRecDepth 20000 in
theorem dL_law_819 : decode cL_law 819 = .ok (.iload 4, 2) := dc_21 (b_L_law 820 rfl) (b_L_law 819 rfl)
set_option maxRecDepth 20000 in
theorem dL_law_821 : decode cL_law 821 = .ok (.iconst 1, 1) := dc_4 (b_L_law 821 rfl)
set_option maxRecDepth 20000 in
theorem dL_law_822 : decode cL_law 822 = .ok (.iadd, 1) := dc_96 (b_L_law 822 rfl)
set_option maxRecDepth 20000 in
theorem dL_law_823 : decode cL_law 823 = .ok (.iaload, 1) := dc_46 (b_L_law 823 rfl)
set_option maxRecDepth 20000 in
theorem dL_law_824 : decode cL_law 824 = .ok (.aload_n 0, 1) := dc_42 (b_L_law 824 rfl)
set_option maxRecDepth 20000 in
theorem dL_law_825 : decode cL_law 825 = .ok (.iload 4, 2) := dc_21 (b_L_law 826 rfl) (b_L_law 825 rfl)
set_option maxRecDepth 20000 in
theorem dL_law_827 : decode cL_law 827 = .ok (.iconst 2, 1) := dc_5 (b_L_law 827 rfl)
set_option maxRecDepth 20000 in
theorem dL_law_828 : decode cL_law 828 = .ok (.iadd, 1) := dc_96 (b_L_law 828 rfl)
set_option maxRecDepth 20000 in
theorem dL_law_829 : decode cL_law 829 = .ok (.iaload, 1) := dc_46 (b_L_law 829 rfl)
set_option maxRecDepth 20000 in
theorem dL_law_830 : decode cL_law 830 = .ok (.invokevirtual 97, 3) := dc_182 (b_L_law 831 rfl) (b_L_law 832 rfl) rfl (b_L_law 830 rfl)
set_option maxRecDepth 20000 in
theorem dL_law_833 : decode cL_law 833 = .ok (.if_icmp .eq 811, 3) := dc_159 (b_L_law 834 rfl) (b_L_law 835 rfl) rfl (b_L_law 833 rfl)
set_option maxRecDepth 20000 in
theorem dL_law_836 : decode cL_law 836 = .ok (.iconst 0, 1) := dc_3 (b_L_law 836 rfl)
set_option maxRecDepth 20000 in
theorem dL_law_837 : decode cL_law 837 = .ok (.ireturn, 1) := dc_172 (b_L_law 837 rfl)
set_option maxRecDepth 20000 in
theorem dL_law_838 : decode cL_law 838 = .ok (.aload_n 1, 1) := dc_43 (b_L_law 838 rfl)
set_option maxRecDepth 20000 in
theorem dL_law_839 : decode cL_law 839 = .ok (.aload_n 0, 1) := dc_42 (b_L_law 839 rfl)
set_option maxRecDepth 20000 in
theorem dL_law_840 : decode cL_law 840 = .ok (.iload 4, 2) := dc_21 (b_L_law 841 rfl) (b_L_law 840 rfl)
set_option maxRecDepth 20000 in
theorem dL_law_842 : decode cL_law 842 = .ok (.iconst 1, 1) := dc_4 (b_L_law 842 rfl)
set_option maxRecDepth 20000 in
theorem dL_law_843 : decode cL_law 843 = .ok (.iadd, 1) := dc_96 (b_L_law 843 rfl)
set_option maxRecDepth 20000 in
theorem dL_law_844 : decode cL_law 844 = .ok (.iaload, 1) := dc_46 (b_L_law 844 rfl)
set_option maxRecDepth 20000 in
theorem dL_law_845 : decode cL_law 845 = .ok (.aload_n 0, 1) := dc_42 (b_L_law 845 rfl)
set_option maxRecDepth 20000 in
theorem dL_law_846 : decode cL_law 846 = .ok (.iload 4, 2) := dc_21 (b_L_law 847 rfl) (b_L_law 846 rfl)
set_option maxRecDepth 20000 in
theorem dL_law_848 : decode cL_law 848 = .ok (.iconst 2, 1) := dc_5 (b_L_law 848 rfl)
set_option maxRecDepth 20000 in
theorem dL_law_849 : decode cL_law 849 = .ok (.iadd, 1) := dc_96 (b_L_law 849 rfl)
set_option maxRecDepth 20000 in
theorem dL_law_850 : decode cL_law 850 = .ok (.iaload, 1) := dc_46 (b_L_law 850 rfl)
set_option maxRecDepth 20000 in
theorem dL_law_851 : decode cL_law 851 = .ok (.aload_n 0, 1) := dc_42 (b_L_law 851 rfl)
set_option maxRecDepth 20000 in
theorem dL_law_852 : decode cL_law 852 = .ok (.iload 4, 2) := dc_21 (b_L_law 853 rfl) (b_L_law 852 rfl)
set_option maxRecDepth 20000 in
theorem dL_law_854 : decode cL_law 854 = .ok (.iconst 3, 1) := dc_6 (b_L_law 854 rfl)
set_option maxRecDepth 20000 in
theorem dL_law_855 : decode cL_law 855 = .ok (.iadd, 1) := dc_96 (b_L_law 855 rfl)
set_option maxRecDepth 20000 in
theorem dL_law_856 : decode cL_law 856 = .ok (.iaload, 1) := dc_46 (b_L_law 856 rfl)
set_option maxRecDepth 20000 in
theorem dL_law_857 : decode cL_law 857 = .ok (.invokevirtual 98, 3) := dc_182 (b_L_law 858 rfl) (b_L_law 859 rfl) rfl (b_L_law 857 rfl)
set_option maxRecDepth 20000 in
theorem dL_law_860 : decode cL_law 860 = .ok (.aload_n 2, 1) := dc_44 (b_L_law 860 rfl)
set_option maxRecDepth 20000 in
theorem dL_law_861 : decode cL_law 861 = .ok (.aload_n 0, 1) := dc_42 (b_L_law 861 rfl)
set_option maxRecDepth 20000 in
theorem dL_law_862 : decode cL_law 862 = .ok (.iload 4, 2) := dc_21 (b_L_law 863 rfl) (b_L_law 862 rfl)
set_option maxRecDepth 20000 in
theorem dL_law_864 : decode cL_law 864 = .ok (.iconst 1, 1) := dc_4 (b_L_law 864 rfl)
set_option maxRecDepth 20000 in
theorem dL_law_865 : decode cL_law 865 = .ok (.iadd, 1) := dc_96 (b_L_law 865 rfl)
set_option maxRecDepth 20000 in
theorem dL_law_866 : decode cL_law 866 = .ok (.iaload, 1) := dc_46 (b_L_law 866 rfl)
set_option maxRecDepth 20000 in
theorem dL_law_867 : decode cL_law 867 = .ok (.aload_n 0, 1) := dc_42 (b_L_law 867 rfl)
set_option maxRecDepth 20000 in
theorem dL_law_868 : decode cL_law 868 = .ok (.iload 4, 2) := dc_21 (b_L_law 869 rfl) (b_L_law 868 rfl)
set_option maxRecDepth 20000 in
theorem dL_law_870 : decode cL_law 870 = .ok (.iconst 2, 1) := dc_5 (b_L_law 870 rfl)
set_option maxRecDepth 20000 in
theorem dL_law_871 : decode cL_law 871 = .ok (.iadd, 1) := dc_96 (b_L_law 871 rfl)
set_option maxRecDepth 20000 in
theorem dL_law_872 : decode cL_law 872 = .ok (.iaload, 1) := dc_46 (b_L_law 872 rfl)
set_option maxRecDepth 20000 in
theorem dL_law_873 : decode cL_law 873 = .ok (.aload_n 0, 1) := dc_42 (b_L_law 873 rfl)
set_option maxRecDepth 20000 in
theorem dL_law_874 : decode cL_law 874 = .ok (.iload 4, 2) := dc_21 (b_L_law 875 rfl) (b_L_law 874 rfl)
set_option maxRecDepth 20000 in
theorem dL_law_876 : decode cL_law 876 = .ok (.iconst 3, 1) := dc_6 (b_L_law 876 rfl)
set_option maxRecDepth 20000 in
theorem dL_law_877 : decode cL_law 877 = .ok (.iadd, 1) := dc_96 (b_L_law 877 rfl)
set_option maxRecDepth 20000 in
theorem dL_law_878 : decode cL_law 878 = .ok (.iaload, 1) := dc_46 (b_L_law 878 rfl)
set_option maxRecDepth 20000 in
theorem dL_law_879 : decode cL_law 879 = .ok (.invokevirtual 102, 3) := dc_182 (b_L_law 880 rfl) (b_L_law 881 rfl) rfl (b_L_law 879 rfl)
set_option maxRecDepth 20000 in
theorem dL_law_882 : decode cL_law 882 = .ok (.if_icmp .eq 762, 3) := dc_159 (b_L_law 883 rfl) (b_L_law 884 rfl) rfl (b_L_law 882 rfl)
set_option maxRecDepth 20000 in
theorem dL_law_885 : decode cL_law 885 = .ok (.iconst 0, 1) := dc_3 (b_L_law 885 rfl)
set_option maxRecDepth 20000 in
theorem dL_law_886 : decode cL_law 886 = .ok (.ireturn, 1) := dc_172 (b_L_law 886 rfl)
set_option maxRecDepth 20000 in
theorem dL_law_887 : decode cL_law 887 = .ok (.aload_n 1, 1) := dc_43 (b_L_law 887 rfl)
set_option maxRecDepth 20000 in
theorem dL_law_888 : decode cL_law 888 = .ok (.aload_n 0, 1) := dc_42 (b_L_law 888 rfl)
set_option maxRecDepth 20000 in
theorem dL_law_889 : decode cL_law 889 = .ok (.iload 4, 2) := dc_21 (b_L_law 890 rfl) (b_L_law 889 rfl)
set_option maxRecDepth 20000 in
theorem dL_law_891 : decode cL_law 891 = .ok (.iconst 1, 1) := dc_4 (b_L_law 891 rfl)
set_option maxRecDepth 20000 in
theorem dL_law_892 : decode cL_law 892 = .ok (.iadd, 1) := dc_96 (b_L_law 892 rfl)
set_option maxRecDepth 20000 in
theorem dL_law_893 : decode cL_law 893 = .ok (.iaload, 1) := dc_46 (b_L_law 893 rfl)
set_option maxRecDepth 20000 in
theorem dL_law_894 : decode cL_law 894 = .ok (.aload_n 0, 1) := dc_42 (b_L_law 894 rfl)
set_option maxRecDepth 20000 in
theorem dL_law_895 : decode cL_law 895 = .ok (.iload 4, 2) := dc_21 (b_L_law 896 rfl) (b_L_law 895 rfl)
set_option maxRecDepth 20000 in
theorem dL_law_897 : decode cL_law 897 = .ok (.iconst 2, 1) := dc_5 (b_L_law 897 rfl)
set_option maxRecDepth 20000 in
theorem dL_law_898 : decode cL_law 898 = .ok (.iadd, 1) := dc_96 (b_L_law 898 rfl)
set_option maxRecDepth 20000 in
theorem dL_law_899 : decode cL_law 899 = .ok (.iaload, 1) := dc_46 (b_L_law 899 rfl)
set_option maxRecDepth 20000 in
theorem dL_law_900 : decode cL_law 900 = .ok (.invokevirtual 103, 3) := dc_182 (b_L_law 901 rfl) (b_L_law 902 rfl) rfl (b_L_law 900 rfl)
set_option maxRecDepth 20000 in
theorem dL_law_903 : decode cL_law 903 = .ok (.aload_n 2, 1) := dc_44 (b_L_law 903 rfl)
set_option maxRecDepth 20000 in
theorem dL_law_904 : decode cL_law 904 = .ok (.aload_n 0, 1) := dc_42 (b_L_law 904 rfl)
set_option maxRecDepth 20000 in
theorem dL_law_905 : decode cL_law 905 = .ok (.iload 4, 2) := dc_21 (b_L_law 906 rfl) (b_L_law 905 rfl)
set_option maxRecDepth 20000 in
theorem dL_law_907 : decode cL_law 907 = .ok (.iconst 1, 1) := dc_4 (b_L_law 907 rfl)
set_option maxRecDepth 20000 in
theorem dL_law_908 : decode cL_law 908 = .ok (.iadd, 1) := dc_96 (b_L_law 908 rfl)
set_option maxRecDepth 20000 in
theorem dL_law_909 : decode cL_law 909 = .ok (.iaload, 1) := dc_46 (b_L_law 909 rfl)
set_option maxRecDepth 20000 in
theorem dL_law_910 : decode cL_law 910 = .ok (.aload_n 0, 1) := dc_42 (b_L_law 910 rfl)
set_option maxRecDepth 20000 in
theorem dL_law_911 : decode cL_law 911 = .ok (.iload 4, 2) := dc_21 (b_L_law 912 rfl) (b_L_law 911 rfl)
set_option maxRecDepth 20000 in
theorem dL_law_913 : decode cL_law 913 = .ok (.iconst 2, 1) := dc_5 (b_L_law 913 rfl)
set_option maxRecDepth 20000 in
theorem dL_law_914 : decode cL_law 914 = .ok (.iadd, 1) := dc_96 (b_L_law 914 rfl)
set_option maxRecDepth 20000 in
theorem dL_law_915 : decode cL_law 915 = .ok (.iaload, 1) := dc_46 (b_L_law 915 rfl)
set_option maxRecDepth 20000 in
theorem dL_law_916 : decode cL_law 916 = .ok (.invokevirtual 106, 3) := dc_182 (b_L_law 917 rfl) (b_L_law 918 rfl) rfl (b_L_law 916 rfl)
set_option maxRecDepth 20000 in
theorem dL_law_919 : decode cL_law 919 = .ok (.if_icmp .eq 725, 3) := dc_159 (b_L_law 920 rfl) (b_L_law 921 rfl) rfl (b_L_law 919 rfl)
set_option maxRecDepth 20000 in
theorem dL_law_922 : decode cL_law 922 = .ok (.iconst 0, 1) := dc_3 (b_L_law 922 rfl)
set_option maxRecDepth 20000 in
theorem dL_law_923 : decode cL_law 923 = .ok (.ireturn, 1) := dc_172 (b_L_law 923 rfl)
set_option maxRecDepth 20000 in
theorem dL_law_924 : decode cL_law 924 = .ok (.aload_n 1, 1) := dc_43 (b_L_law 924 rfl)
set_option maxRecDepth 20000 in
theorem dL_law_925 : decode cL_law 925 = .ok (.aload_n 0, 1) := dc_42 (b_L_law 925 rfl)
set_option maxRecDepth 20000 in
theorem dL_law_926 : decode cL_law 926 = .ok (.iload 4, 2) := dc_21 (b_L_law 927 rfl) (b_L_law 926 rfl)
set_option maxRecDepth 20000 in
theorem dL_law_928 : decode cL_law 928 = .ok (.iconst 1, 1) := dc_4 (b_L_law 928 rfl)
set_option maxRecDepth 20000 in
theorem dL_law_929 : decode cL_law 929 = .ok (.iadd, 1) := dc_96 (b_L_law 929 rfl)
set_option maxRecDepth 20000 in
theorem dL_law_930 : decode cL_law 930 = .ok (.iaload, 1) := dc_46 (b_L_law 930 rfl)
set_option maxRecDepth 20000 in
theorem dL_law_931 : decode cL_law 931 = .ok (.aload_n 0, 1) := dc_42 (b_L_law 931 rfl)
set_option maxRecDepth 20000 in
theorem dL_law_932 : decode cL_law 932 = .ok (.iload 4, 2) := dc_21 (b_L_law 933 rfl) (b_L_law 932 rfl)
set_option maxRecDepth 20000 in
theorem dL_law_934 : decode cL_law 934 = .ok (.iconst 2, 1) := dc_5 (b_L_law 934 rfl)
set_option maxRecDepth 20000 in
theorem dL_law_935 : decode cL_law 935 = .ok (.iadd, 1) := dc_96 (b_L_law 935 rfl)
set_option maxRecDepth 20000 in
theorem dL_law_936 : decode cL_law 936 = .ok (.iaload, 1) := dc_46 (b_L_law 936 rfl)
set_option maxRecDepth 20000 in
theorem dL_law_937 : decode cL_law 937 = .ok (.aload_n 0, 1) := dc_42 (b_L_law 937 rfl)
set_option maxRecDepth 20000 in
theorem dL_law_938 : decode cL_law 938 = .ok (.iload 4, 2) := dc_21 (b_L_law 939 rfl) (b_L_law 938 rfl)
set_option maxRecDepth 20000 in
theorem dL_law_940 : decode cL_law 940 = .ok (.iconst 3, 1) := dc_6 (b_L_law 940 rfl)
set_option maxRecDepth 20000 in
theorem dL_law_941 : decode cL_law 941 = .ok (.iadd, 1) := dc_96 (b_L_law 941 rfl)
set_option maxRecDepth 20000 in
theorem dL_law_942 : decode cL_law 942 = .ok (.iaload, 1) := dc_46 (b_L_law 942 rfl)
set_option maxRecDepth 20000 in
theorem dL_law_943 : decode cL_law 943 = .ok (.invokevirtual 107, 3) := dc_182 (b_L_law 944 rfl) (b_L_law 945 rfl) rfl (b_L_law 943 rfl)
set_option maxRecDepth 20000 in
theorem dL_law_946 : decode cL_law 946 = .ok (.aload_n 2, 1) := dc_44 (b_L_law 946 rfl)
set_option maxRecDepth 20000 in
theorem dL_law_947 : decode cL_law 947 = .ok (.aload_n 0, 1) := dc_42 (b_L_law 947 rfl)
set_option maxRecDepth 20000 in
theorem dL_law_948 : decode cL_law 948 = .ok (.iload 4, 2) := dc_21 (b_L_law 949 rfl) (b_L_law 948 rfl)
set_option maxRecDepth 20000 in
theorem dL_law_950 : decode cL_law 950 = .ok (.iconst 1, 1) := dc_4 (b_L_law 950 rfl)
set_option maxRecDepth 20000 in
theorem dL_law_951 : decode cL_law 951 = .ok (.iadd, 1) := dc_96 (b_L_law 951 rfl)
set_option maxRecDepth 20000 in
theorem dL_law_952 : decode cL_law 952 = .ok (.iaload, 1) := dc_46 (b_L_law 952 rfl)
set_option maxRecDepth 20000 in
theorem dL_law_953 : decode cL_law 953 = .ok (.aload_n 0, 1) := dc_42 (b_L_law 953 rfl)
set_option maxRecDepth 20000 in
theorem dL_law_954 : decode cL_law 954 = .ok (.iload 4, 2) := dc_21 (b_L_law 955 rfl) (b_L_law 954 rfl)
set_option maxRecDepth 20000 in
theorem dL_law_956 : decode cL_law 956 = .ok (.iconst 2, 1) := dc_5 (b_L_law 956 rfl)
set_option maxRecDepth 20000 in
theorem dL_law_957 : decode cL_law 957 = .ok (.iadd, 1) := dc_96 (b_L_law 957 rfl)
set_option maxRecDepth 20000 in
theorem dL_law_958 : decode cL_law 958 = .ok (.iaload, 1) := dc_46 (b_L_law 958 rfl)
set_option maxRecDepth 20000 in
theorem dL_law_959 : decode cL_law 959 = .ok (.aload_n 0, 1) := dc_42 (b_L_law 959 rfl)
set_option maxRecDepth 20000 in
theorem dL_law_960 : decode cL_law 960 = .ok (.iload 4, 2) := dc_21 (b_L_law 961 rfl) (b_L_law 960 rfl)
set_option maxRecDepth 20000 in
theorem dL_law_962 : decode cL_law 962 = .ok (.iconst 3, 1) := dc_6 (b_L_law 962 rfl)
set_option maxRecDepth 20000 in
theorem dL_law_963 : decode cL_law 963 = .ok (.iadd, 1) := dc_96 (b_L_law 963 rfl)
set_option maxRecDepth 20000 in
theorem dL_law_964 : decode cL_law 964 = .ok (.iaload, 1) := dc_46 (b_L_law 964 rfl)
set_option maxRecDepth 20000 in
theorem dL_law_965 : decode cL_law 965 = .ok (.invokevirtual 110, 3) := dc_182 (b_L_law 966 rfl) (b_L_law 967 rfl) rfl (b_L_law 965 rfl)
set_option maxRecDepth 20000 in
theorem dL_law_968 : decode cL_law 968 = .ok (.if_icmp .eq 676, 3) := dc_159 (b_L_law 969 rfl) (b_L_law 970 rfl) rfl (b_L_law 968 rfl)
set_option maxRecDepth 20000 in
theorem dL_law_971 : decode cL_law 971 = .ok (.iconst 0, 1) := dc_3 (b_L_law 971 rfl)
set_option maxRecDepth 20000 in
theorem dL_law_972 : decode cL_law 972 = .ok (.ireturn, 1) := dc_172 (b_L_law 972 rfl)
set_option maxRecDepth 20000 in
theorem dL_law_973 : decode cL_law 973 = .ok (.aload_n 1, 1) := dc_43 (b_L_law 973 rfl)
set_option maxRecDepth 20000 in
theorem dL_law_974 : decode cL_law 974 = .ok (.aload_n 0, 1) := dc_42 (b_L_law 974 rfl)
set_option maxRecDepth 20000 in
theorem dL_law_975 : decode cL_law 975 = .ok (.iload 4, 2) := dc_21 (b_L_law 976 rfl) (b_L_law 975 rfl)
set_option maxRecDepth 20000 in
theorem dL_law_977 : decode cL_law 977 = .ok (.iconst 1, 1) := dc_4 (b_L_law 977 rfl)
set_option maxRecDepth 20000 in
theorem dL_law_978 : decode cL_law 978 = .ok (.iadd, 1) := dc_96 (b_L_law 978 rfl)
set_option maxRecDepth 20000 in
theorem dL_law_979 : decode cL_law 979 = .ok (.iaload, 1) := dc_46 (b_L_law 979 rfl)
set_option maxRecDepth 20000 in
theorem dL_law_980 : decode cL_law 980 = .ok (.aload_n 0, 1) := dc_42 (b_L_law 980 rfl)
set_option maxRecDepth 20000 in
theorem dL_law_981 : decode cL_law 981 = .ok (.iload 4, 2) := dc_21 (b_L_law 982 rfl) (b_L_law 981 rfl)
set_option maxRecDepth 20000 in
theorem dL_law_983 : decode cL_law 983 = .ok (.iconst 2, 1) := dc_5 (b_L_law 983 rfl)
set_option maxRecDepth 20000 in
theorem dL_law_984 : decode cL_law 984 = .ok (.iadd, 1) := dc_96 (b_L_law 984 rfl)
set_option maxRecDepth 20000 in
theorem dL_law_985 : decode cL_law 985 = .ok (.iaload, 1) := dc_46 (b_L_law 985 rfl)
set_option maxRecDepth 20000 in
theorem dL_law_986 : decode cL_law 986 = .ok (.invokevirtual 111, 3) := dc_182 (b_L_law 987 rfl) (b_L_law 988 rfl) rfl (b_L_law 986 rfl)
set_option maxRecDepth 20000 in
theorem dL_law_989 : decode cL_law 989 = .ok (.aload_n 2, 1) := dc_44 (b_L_law 989 rfl)
set_option maxRecDepth 20000 in
theorem dL_law_990 : decode cL_law 990 = .ok (.aload_n 0, 1) := dc_42 (b_L_law 990 rfl)
set_option maxRecDepth 20000 in
theorem dL_law_991 : decode cL_law 991 = .ok (.iload 4, 2) := dc_21 (b_L_law 992 rfl) (b_L_law 991 rfl)
set_option maxRecDepth 20000 in
theorem dL_law_993 : decode cL_law 993 = .ok (.iconst 1, 1) := dc_4 (b_L_law 993 rfl)
set_option maxRecDepth 20000 in
theorem dL_law_994 : decode cL_law 994 = .ok (.iadd, 1) := dc_96 (b_L_law 994 rfl)
set_option maxRecDepth 20000 in
theorem dL_law_995 : decode cL_law 995 = .ok (.iaload, 1) := dc_46 (b_L_law 995 rfl)
set_option maxRecDepth 20000 in
theorem dL_law_996 : decode cL_law 996 = .ok (.aload_n 0, 1) := dc_42 (b_L_law 996 rfl)
set_option maxRecDepth 20000 in
theorem dL_law_997 : decode cL_law 997 = .ok (.iload 4, 2) := dc_21 (b_L_law 998 rfl) (b_L_law 997 rfl)
set_option maxRecDepth 20000 in
theorem dL_law_999 : decode cL_law 999 = .ok (.iconst 2, 1) := dc_5 (b_L_law 999 rfl)
set_option maxRecDepth 20000 in
theorem dL_law_1000 : decode cL_law 1000 = .ok (.iadd, 1) := dc_96 (b_L_law 1000 rfl)
set_option maxRecDepth 20000 in
theorem dL_law_1001 : decode cL_law 1001 = .ok (.iaload, 1) := dc_46 (b_L_law 1001 rfl)
set_option maxRecDepth 20000 in
theorem dL_law_1002 : decode cL_law 1002 = .ok (.invokevirtual 114, 3) := dc_182 (b_L_law 1003 rfl) (b_L_law 1004 rfl) rfl (b_L_law 1002 rfl)
set_option maxRecDepth 20000 in
theorem dL_law_1005 : decode cL_law 1005 = .ok (.if_icmp .eq 639, 3) := dc_159 (b_L_law 1006 rfl) (b_L_law 1007 rfl) rfl (b_L_law 1005 rfl)
set_option maxRecDepth 20000 in
theorem dL_law_1008 : decode cL_law 1008 = .ok (.iconst 0, 1) := dc_3 (b_L_law 1008 rfl)
set_option maxRecDepth 20000 in
theorem dL_law_1009 : decode cL_law 1009 = .ok (.ireturn, 1) := dc_172 (b_L_law 1009 rfl)
set_option maxRecDepth 20000 in
theorem dL_law_1010 : decode cL_law 1010 = .ok (.aload_n 1, 1) := dc_43 (b_L_law 1010 rfl)
set_option maxRecDepth 20000 in
theorem dL_law_1011 : decode cL_law 1011 = .ok (.aload_n 0, 1) := dc_42 (b_L_law 1011 rfl)
set_option maxRecDepth 20000 in
theorem dL_law_1012 : decode cL_law 1012 = .ok (.iload 4, 2) := dc_21 (b_L_law 1013 rfl) (b_L_law 1012 rfl)
set_option maxRecDepth 20000 in
theorem dL_law_1014 : decode cL_law 1014 = .ok (.iconst 1, 1) := dc_4 (b_L_law 1014 rfl)
set_option maxRecDepth 20000 in
theorem dL_law_1015 : decode cL_law 1015 = .ok (.iadd, 1) := dc_96 (b_L_law 1015 rfl)
set_option maxRecDepth 20000 in
theorem dL_law_1016 : decode cL_law 1016 = .ok (.iaload, 1) := dc_46 (b_L_law 1016 rfl)
set_option maxRecDepth 20000 in
theorem dL_law_1017 : decode cL_law 1017 = .ok (.aload_n 0, 1) := dc_42 (b_L_law 1017 rfl)
set_option maxRecDepth 20000 in
theorem dL_law_1018 : decode cL_law 1018 = .ok (.iload 4, 2) := dc_21 (b_L_law 1019 rfl) (b_L_law 1018 rfl)
set_option maxRecDepth 20000 in
theorem dL_law_1020 : decode cL_law 1020 = .ok (.iconst 2, 1) := dc_5 (b_L_law 1020 rfl)
set_option maxRecDepth 20000 in
theorem dL_law_1021 : decode cL_law 1021 = .ok (.iadd, 1) := dc_96 (b_L_law 1021 rfl)
set_option maxRecDepth 20000 in
theorem dL_law_1022 : decode cL_law 1022 = .ok (.iaload, 1) := dc_46 (b_L_law 1022 rfl)
set_option maxRecDepth 20000 in
theorem dL_law_1023 : decode cL_law 1023 = .ok (.invokevirtual 115, 3) := dc_182 (b_L_law 1024 rfl) (b_L_law 1025 rfl) rfl (b_L_law 1023 rfl)
set_option maxRecDepth 20000 in
theorem dL_law_1026 : decode cL_law 1026 = .ok (.aload_n 2, 1) := dc_44 (b_L_law 1026 rfl)
set_option maxRecDepth 20000 in
theorem dL_law_1027 : decode cL_law 1027 = .ok (.aload_n 0, 1) := dc_42 (b_L_law 1027 rfl)
set_option maxRecDepth 20000 in
theorem dL_law_1028 : decode cL_law 1028 = .ok (.iload 4, 2) := dc_21 (b_L_law 1029 rfl) (b_L_law 1028 rfl)
set_option maxRecDepth 20000 in
theorem dL_law_1030 : decode cL_law 1030 = .ok (.iconst 1, 1) := dc_4 (b_L_law 1030 rfl)
set_option maxRecDepth 20000 in
theorem dL_law_1031 : decode cL_law 1031 = .ok (.iadd, 1) := dc_96 (b_L_law 1031 rfl)
set_option maxRecDepth 20000 in
theorem dL_law_1032 : decode cL_law 1032 = .ok (.iaload, 1) := dc_46 (b_L_law 1032 rfl)
set_option maxRecDepth 20000 in
theorem dL_law_1033 : decode cL_law 1033 = .ok (.aload_n 0, 1) := dc_42 (b_L_law 1033 rfl)
set_option maxRecDepth 20000 in
theorem dL_law_1034 : decode cL_law 1034 = .ok (.iload 4, 2) := dc_21 (b_L_law 1035 rfl) (b_L_law 1034 rfl)
set_option maxRecDepth 20000 in
theorem dL_law_1036 : decode cL_law 1036 = .ok (.iconst 2, 1) := dc_5 (b_L_law 1036 rfl)
set_option maxRecDepth 20000 in
theorem dL_law_1037 : decode cL_law 1037 = .ok (.iadd, 1) := dc_96 (b_L_law 1037 rfl)
set_option maxRecDepth 20000 in
theorem dL_law_1038 : decode cL_law 1038 = .ok (.iaload, 1) := dc_46 (b_L_law 1038 rfl)
set_option maxRecDepth 20000 in
theorem dL_law_1039 : decode cL_law 1039 = .ok (.invokevirtual 118, 3) := dc_182 (b_L_law 1040 rfl) (b_L_law 1041 rfl) rfl (b_L_law 1039 rfl)
set_option maxRecDepth 20000 in
theorem dL_law_1042 : decode cL_law 1042 = .ok (.if_icmp .eq 602, 3) := dc_159 (b_L_law 1043 rfl) (b_L_law 1044 rfl) rfl (b_L_law 1042 rfl)
set_option maxRecDepth 20000 in
theorem dL_law_1045 : decode cL_law 1045 = .ok (.iconst 0, 1) := dc_3 (b_L_law 1045 rfl)
set_option maxRecDepth 20000 in
theorem dL_law_1046 : decode cL_law 1046 = .ok (.ireturn, 1) := dc_172 (b_L_law 1046 rfl)
set_option maxRecDepth 20000 in
theorem dL_law_1047 : decode cL_law 1047 = .ok (.aload_n 1, 1) := dc_43 (b_L_law 1047 rfl)
set_option maxRecDepth 20000 in
theorem dL_law_1048 : decode cL_law 1048 = .ok (.aload_n 0, 1) := dc_42 (b_L_law 1048 rfl)
set_option maxRecDepth 20000 in
theorem dL_law_1049 : decode cL_law 1049 = .ok (.iload 4, 2) := dc_21 (b_L_law 1050 rfl) (b_L_law 1049 rfl)
set_option maxRecDepth 20000 in
theorem dL_law_1051 : decode cL_law 1051 = .ok (.iconst 1, 1) := dc_4 (b_L_law 1051 rfl)
set_option maxRecDepth 20000 in
theorem dL_law_1052 : decode cL_law 1052 = .ok (.iadd, 1) := dc_96 (b_L_law 1052 rfl)
set_option maxRecDepth 20000 in
theorem dL_law_1053 : decode cL_law 1053 = .ok (.iaload, 1) := dc_46 (b_L_law 1053 rfl)
set_option maxRecDepth 20000 in
theorem dL_law_1054 : decode cL_law 1054 = .ok (.aload_n 0, 1) := dc_42 (b_L_law 1054 rfl)
set_option maxRecDepth 20000 in
theorem dL_law_1055 : decode cL_law 1055 = .ok (.iload 4, 2) := dc_21 (b_L_law 1056 rfl) (b_L_law 1055 rfl)
set_option maxRecDepth 20000 in
theorem dL_law_1057 : decode cL_law 1057 = .ok (.iconst 2, 1) := dc_5 (b_L_law 1057 rfl)
set_option maxRecDepth 20000 in
theorem dL_law_1058 : decode cL_law 1058 = .ok (.iadd, 1) := dc_96 (b_L_law 1058 rfl)
set_option maxRecDepth 20000 in
theorem dL_law_1059 : decode cL_law 1059 = .ok (.iaload, 1) := dc_46 (b_L_law 1059 rfl)
set_option maxRecDepth 20000 in
theorem dL_law_1060 : decode cL_law 1060 = .ok (.aload_n 0, 1) := dc_42 (b_L_law 1060 rfl)
set_option maxRecDepth 20000 in
theorem dL_law_1061 : decode cL_law 1061 = .ok (.iload 4, 2) := dc_21 (b_L_law 1062 rfl) (b_L_law 1061 rfl)
set_option maxRecDepth 20000 in
theorem dL_law_1063 : decode cL_law 1063 = .ok (.iconst 3, 1) := dc_6 (b_L_law 1063 rfl)
set_option maxRecDepth 20000 in
theorem dL_law_1064 : decode cL_law 1064 = .ok (.iadd, 1) := dc_96 (b_L_law 1064 rfl)
set_option maxRecDepth 20000 in
theorem dL_law_1065 : decode cL_law 1065 = .ok (.iaload, 1) := dc_46 (b_L_law 1065 rfl)
set_option maxRecDepth 20000 in
theorem dL_law_1066 : decode cL_law 1066 = .ok (.invokevirtual 119, 3) := dc_182 (b_L_law 1067 rfl) (b_L_law 1068 rfl) rfl (b_L_law 1066 rfl)
set_option maxRecDepth 20000 in
theorem dL_law_1069 : decode cL_law 1069 = .ok (.aload_n 2, 1) := dc_44 (b_L_law 1069 rfl)
set_option maxRecDepth 20000 in
theorem dL_law_1070 : decode cL_law 1070 = .ok (.aload_n 0, 1) := dc_42 (b_L_law 1070 rfl)
set_option maxRecDepth 20000 in
theorem dL_law_1071 : decode cL_law 1071 = .ok (.iload 4, 2) := dc_21 (b_L_law 1072 rfl) (b_L_law 1071 rfl)
set_option maxRecDepth 20000 in
theorem dL_law_1073 : decode cL_law 1073 = .ok (.iconst 1, 1) := dc_4 (b_L_law 1073 rfl)
set_option maxRecDepth 20000 in
theorem dL_law_1074 : decode cL_law 1074 = .ok (.iadd, 1) := dc_96 (b_L_law 1074 rfl)
set_option maxRecDepth 20000 in
theorem dL_law_1075 : decode cL_law 1075 = .ok (.iaload, 1) := dc_46 (b_L_law 1075 rfl)
set_option maxRecDepth 20000 in
theorem dL_law_1076 : decode cL_law 1076 = .ok (.aload_n 0, 1) := dc_42 (b_L_law 1076 rfl)
set_option maxRecDepth 20000 in
theorem dL_law_1077 : decode cL_law 1077 = .ok (.iload 4, 2) := dc_21 (b_L_law 1078 rfl) (b_L_law 1077 rfl)
set_option maxRecDepth 20000 in
theorem dL_law_1079 : decode cL_law 1079 = .ok (.iconst 2, 1) := dc_5 (b_L_law 1079 rfl)
set_option maxRecDepth 20000 in
theorem dL_law_1080 : decode cL_law 1080 = .ok (.iadd, 1) := dc_96 (b_L_law 1080 rfl)
set_option maxRecDepth 20000 in
theorem dL_law_1081 : decode cL_law 1081 = .ok (.iaload, 1) := dc_46 (b_L_law 1081 rfl)
set_option maxRecDepth 20000 in
theorem dL_law_1082 : decode cL_law 1082 = .ok (.aload_n 0, 1) := dc_42 (b_L_law 1082 rfl)
set_option maxRecDepth 20000 in
theorem dL_law_1083 : decode cL_law 1083 = .ok (.iload 4, 2) := dc_21 (b_L_law 1084 rfl) (b_L_law 1083 rfl)
set_option maxRecDepth 20000 in
theorem dL_law_1085 : decode cL_law 1085 = .ok (.iconst 3, 1) := dc_6 (b_L_law 1085 rfl)
set_option maxRecDepth 20000 in
theorem dL_law_1086 : decode cL_law 1086 = .ok (.iadd, 1) := dc_96 (b_L_law 1086 rfl)
set_option maxRecDepth 20000 in
theorem dL_law_1087 : decode cL_law 1087 = .ok (.iaload, 1) := dc_46 (b_L_law 1087 rfl)
set_option maxRecDepth 20000 in
theorem dL_law_1088 : decode cL_law 1088 = .ok (.invokevirtual 122, 3) := dc_182 (b_L_law 1089 rfl) (b_L_law 1090 rfl) rfl (b_L_law 1088 rfl)
set_option maxRecDepth 20000 in
theorem dL_law_1091 : decode cL_law 1091 = .ok (.if_icmp .eq 553, 3) := dc_159 (b_L_law 1092 rfl) (b_L_law 1093 rfl) rfl (b_L_law 1091 rfl)
set_option maxRecDepth 20000 in
theorem dL_law_1094 : decode cL_law 1094 = .ok (.iconst 0, 1) := dc_3 (b_L_law 1094 rfl)
set_option maxRecDepth 20000 in
theorem dL_law_1095 : decode cL_law 1095 = .ok (.ireturn, 1) := dc_172 (b_L_law 1095 rfl)
set_option maxRecDepth 20000 in
theorem dL_law_1096 : decode cL_law 1096 = .ok (.aload_n 1, 1) := dc_43 (b_L_law 1096 rfl)
set_option maxRecDepth 20000 in
theorem dL_law_1097 : decode cL_law 1097 = .ok (.aload_n 0, 1) := dc_42 (b_L_law 1097 rfl)
set_option maxRecDepth 20000 in
theorem dL_law_1098 : decode cL_law 1098 = .ok (.iload 4, 2) := dc_21 (b_L_law 1099 rfl) (b_L_law 1098 rfl)
set_option maxRecDepth 20000 in
theorem dL_law_1100 : decode cL_law 1100 = .ok (.iconst 1, 1) := dc_4 (b_L_law 1100 rfl)
set_option maxRecDepth 20000 in
theorem dL_law_1101 : decode cL_law 1101 = .ok (.iadd, 1) := dc_96 (b_L_law 1101 rfl)
set_option maxRecDepth 20000 in
theorem dL_law_1102 : decode cL_law 1102 = .ok (.iaload, 1) := dc_46 (b_L_law 1102 rfl)
set_option maxRecDepth 20000 in
theorem dL_law_1103 : decode cL_law 1103 = .ok (.aload_n 0, 1) := dc_42 (b_L_law 1103 rfl)
set_option maxRecDepth 20000 in
theorem dL_law_1104 : decode cL_law 1104 = .ok (.iload 4, 2) := dc_21 (b_L_law 1105 rfl) (b_L_law 1104 rfl)
set_option maxRecDepth 20000 in
theorem dL_law_1106 : decode cL_law 1106 = .ok (.iconst 2, 1) := dc_5 (b_L_law 1106 rfl)
set_option maxRecDepth 20000 in
theorem dL_law_1107 : decode cL_law 1107 = .ok (.iadd, 1) := dc_96 (b_L_law 1107 rfl)
set_option maxRecDepth 20000 in
theorem dL_law_1108 : decode cL_law 1108 = .ok (.iaload, 1) := dc_46 (b_L_law 1108 rfl)
set_option maxRecDepth 20000 in
theorem dL_law_1109 : decode cL_law 1109 = .ok (.aload_n 0, 1) := dc_42 (b_L_law 1109 rfl)
set_option maxRecDepth 20000 in
theorem dL_law_1110 : decode cL_law 1110 = .ok (.iload 4, 2) := dc_21 (b_L_law 1111 rfl) (b_L_law 1110 rfl)
set_option maxRecDepth 20000 in
theorem dL_law_1112 : decode cL_law 1112 = .ok (.iconst 3, 1) := dc_6 (b_L_law 1112 rfl)
set_option maxRecDepth 20000 in
theorem dL_law_1113 : decode cL_law 1113 = .ok (.iadd, 1) := dc_96 (b_L_law 1113 rfl)
set_option maxRecDepth 20000 in
theorem dL_law_1114 : decode cL_law 1114 = .ok (.iaload, 1) := dc_46 (b_L_law 1114 rfl)
set_option maxRecDepth 20000 in
theorem dL_law_1115 : decode cL_law 1115 = .ok (.aload_n 0, 1) := dc_42 (b_L_law 1115 rfl)
set_option maxRecDepth 20000 in
theorem dL_law_1116 : decode cL_law 1116 = .ok (.iload 4, 2) := dc_21 (b_L_law 1117 rfl) (b_L_law 1116 rfl)
set_option maxRecDepth 20000 in
theorem dL_law_1118 : decode cL_law 1118 = .ok (.iconst 4, 1) := dc_7 (b_L_law 1118 rfl)
set_option maxRecDepth 20000 in
theorem dL_law_1119 : decode cL_law 1119 = .ok (.iadd, 1) := dc_96 (b_L_law 1119 rfl)
set_option maxRecDepth 20000 in
theorem dL_law_1120 : decode cL_law 1120 = .ok (.iaload, 1) := dc_46 (b_L_law 1120 rfl)
set_option maxRecDepth 20000 in
theorem dL_law_1121 : decode cL_law 1121 = .ok (.invokevirtual 123, 3) := dc_182 (b_L_law 1122 rfl) (b_L_law 1123 rfl) rfl (b_L_law 1121 rfl)
set_option maxRecDepth 20000 in
theorem dL_law_1124 : decode cL_law 1124 = .ok (.aload_n 2, 1) := dc_44 (b_L_law 1124 rfl)
set_option maxRecDepth 20000 in
theorem dL_law_1125 : decode cL_law 1125 = .ok (.aload_n 0, 1) := dc_42 (b_L_law 1125 rfl)
set_option maxRecDepth 20000 in
theorem dL_law_1126 : decode cL_law 1126 = .ok (.iload 4, 2) := dc_21 (b_L_law 1127 rfl) (b_L_law 1126 rfl)
set_option maxRecDepth 20000 in
theorem dL_law_1128 : decode cL_law 1128 = .ok (.iconst 1, 1) := dc_4 (b_L_law 1128 rfl)
set_option maxRecDepth 20000 in
theorem dL_law_1129 : decode cL_law 1129 = .ok (.iadd, 1) := dc_96 (b_L_law 1129 rfl)
set_option maxRecDepth 20000 in
theorem dL_law_1130 : decode cL_law 1130 = .ok (.iaload, 1) := dc_46 (b_L_law 1130 rfl)
set_option maxRecDepth 20000 in
theorem dL_law_1131 : decode cL_law 1131 = .ok (.aload_n 0, 1) := dc_42 (b_L_law 1131 rfl)
set_option maxRecDepth 20000 in
theorem dL_law_1132 : decode cL_law 1132 = .ok (.iload 4, 2) := dc_21 (b_L_law 1133 rfl) (b_L_law 1132 rfl)
set_option maxRecDepth 20000 in
theorem dL_law_1134 : decode cL_law 1134 = .ok (.iconst 2, 1) := dc_5 (b_L_law 1134 rfl)
set_option maxRecDepth 20000 in
theorem dL_law_1135 : decode cL_law 1135 = .ok (.iadd, 1) := dc_96 (b_L_law 1135 rfl)
set_option maxRecDepth 20000 in
theorem dL_law_1136 : decode cL_law 1136 = .ok (.iaload, 1) := dc_46 (b_L_law 1136 rfl)
set_option maxRecDepth 20000 in
theorem dL_law_1137 : decode cL_law 1137 = .ok (.aload_n 0, 1) := dc_42 (b_L_law 1137 rfl)
set_option maxRecDepth 20000 in
theorem dL_law_1138 : decode cL_law 1138 = .ok (.iload 4, 2) := dc_21 (b_L_law 1139 rfl) (b_L_law 1138 rfl)
set_option maxRecDepth 20000 in
theorem dL_law_1140 : decode cL_law 1140 = .ok (.iconst 3, 1) := dc_6 (b_L_law 1140 rfl)
set_option maxRecDepth 20000 in
theorem dL_law_1141 : decode cL_law 1141 = .ok (.iadd, 1) := dc_96 (b_L_law 1141 rfl)
set_option maxRecDepth 20000 in
theorem dL_law_1142 : decode cL_law 1142 = .ok (.iaload, 1) := dc_46 (b_L_law 1142 rfl)
set_option maxRecDepth 20000 in
theorem dL_law_1143 : decode cL_law 1143 = .ok (.aload_n 0, 1) := dc_42 (b_L_law 1143 rfl)
set_option maxRecDepth 20000 in
theorem dL_law_1144 : decode cL_law 1144 = .ok (.iload 4, 2) := dc_21 (b_L_law 1145 rfl) (b_L_law 1144 rfl)
set_option maxRecDepth 20000 in
theorem dL_law_1146 : decode cL_law 1146 = .ok (.iconst 4, 1) := dc_7 (b_L_law 1146 rfl)
set_option maxRecDepth 20000 in
theorem dL_law_1147 : decode cL_law 1147 = .ok (.iadd, 1) := dc_96 (b_L_law 1147 rfl)
set_option maxRecDepth 20000 in
theorem dL_law_1148 : decode cL_law 1148 = .ok (.iaload, 1) := dc_46 (b_L_law 1148 rfl)
set_option maxRecDepth 20000 in
theorem dL_law_1149 : decode cL_law 1149 = .ok (.invokevirtual 126, 3) := dc_182 (b_L_law 1150 rfl) (b_L_law 1151 rfl) rfl (b_L_law 1149 rfl)
set_option maxRecDepth 20000 in
theorem dL_law_1152 : decode cL_law 1152 = .ok (.if_icmp .eq 492, 3) := dc_159 (b_L_law 1153 rfl) (b_L_law 1154 rfl) rfl (b_L_law 1152 rfl)
set_option maxRecDepth 20000 in
theorem dL_law_1155 : decode cL_law 1155 = .ok (.iconst 0, 1) := dc_3 (b_L_law 1155 rfl)
set_option maxRecDepth 20000 in
theorem dL_law_1156 : decode cL_law 1156 = .ok (.ireturn, 1) := dc_172 (b_L_law 1156 rfl)
set_option maxRecDepth 20000 in
theorem dL_law_1157 : decode cL_law 1157 = .ok (.aload_n 1, 1) := dc_43 (b_L_law 1157 rfl)
set_option maxRecDepth 20000 in
theorem dL_law_1158 : decode cL_law 1158 = .ok (.aload_n 0, 1) := dc_42 (b_L_law 1158 rfl)
set_option maxRecDepth 20000 in
theorem dL_law_1159 : decode cL_law 1159 = .ok (.iload 4, 2) := dc_21 (b_L_law 1160 rfl) (b_L_law 1159 rfl)
set_option maxRecDepth 20000 in
theorem dL_law_1161 : decode cL_law 1161 = .ok (.iconst 1, 1) := dc_4 (b_L_law 1161 rfl)
set_option maxRecDepth 20000 in
theorem dL_law_1162 : decode cL_law 1162 = .ok (.iadd, 1) := dc_96 (b_L_law 1162 rfl)
set_option maxRecDepth 20000 in
theorem dL_law_1163 : decode cL_law 1163 = .ok (.iaload, 1) := dc_46 (b_L_law 1163 rfl)
set_option maxRecDepth 20000 in
theorem dL_law_1164 : decode cL_law 1164 = .ok (.aload_n 0, 1) := dc_42 (b_L_law 1164 rfl)
set_option maxRecDepth 20000 in
theorem dL_law_1165 : decode cL_law 1165 = .ok (.iload 4, 2) := dc_21 (b_L_law 1166 rfl) (b_L_law 1165 rfl)
set_option maxRecDepth 20000 in
theorem dL_law_1167 : decode cL_law 1167 = .ok (.iconst 2, 1) := dc_5 (b_L_law 1167 rfl)
set_option maxRecDepth 20000 in
theorem dL_law_1168 : decode cL_law 1168 = .ok (.iadd, 1) := dc_96 (b_L_law 1168 rfl)
set_option maxRecDepth 20000 in
theorem dL_law_1169 : decode cL_law 1169 = .ok (.iaload, 1) := dc_46 (b_L_law 1169 rfl)
set_option maxRecDepth 20000 in
theorem dL_law_1170 : decode cL_law 1170 = .ok (.invokevirtual 127, 3) := dc_182 (b_L_law 1171 rfl) (b_L_law 1172 rfl) rfl (b_L_law 1170 rfl)
set_option maxRecDepth 20000 in
theorem dL_law_1173 : decode cL_law 1173 = .ok (.aload_n 2, 1) := dc_44 (b_L_law 1173 rfl)
set_option maxRecDepth 20000 in
theorem dL_law_1174 : decode cL_law 1174 = .ok (.aload_n 0, 1) := dc_42 (b_L_law 1174 rfl)
set_option maxRecDepth 20000 in
theorem dL_law_1175 : decode cL_law 1175 = .ok (.iload 4, 2) := dc_21 (b_L_law 1176 rfl) (b_L_law 1175 rfl)
set_option maxRecDepth 20000 in
theorem dL_law_1177 : decode cL_law 1177 = .ok (.iconst 1, 1) := dc_4 (b_L_law 1177 rfl)
set_option maxRecDepth 20000 in
theorem dL_law_1178 : decode cL_law 1178 = .ok (.iadd, 1) := dc_96 (b_L_law 1178 rfl)
set_option maxRecDepth 20000 in
theorem dL_law_1179 : decode cL_law 1179 = .ok (.iaload, 1) := dc_46 (b_L_law 1179 rfl)
set_option maxRecDepth 20000 in
theorem dL_law_1180 : decode cL_law 1180 = .ok (.aload_n 0, 1) := dc_42 (b_L_law 1180 rfl)
set_option maxRecDepth 20000 in
theorem dL_law_1181 : decode cL_law 1181 = .ok (.iload 4, 2) := dc_21 (b_L_law 1182 rfl) (b_L_law 1181 rfl)
set_option maxRecDepth 20000 in
theorem dL_law_1183 : decode cL_law 1183 = .ok (.iconst 2, 1) := dc_5 (b_L_law 1183 rfl)
set_option maxRecDepth 20000 in
theorem dL_law_1184 : decode cL_law 1184 = .ok (.iadd, 1) := dc_96 (b_L_law 1184 rfl)
set_option maxRecDepth 20000 in
theorem dL_law_1185 : decode cL_law 1185 = .ok (.iaload, 1) := dc_46 (b_L_law 1185 rfl)
set_option maxRecDepth 20000 in
theorem dL_law_1186 : decode cL_law 1186 = .ok (.invokevirtual 130, 3) := dc_182 (b_L_law 1187 rfl) (b_L_law 1188 rfl) rfl (b_L_law 1186 rfl)
set_option maxRecDepth 20000 in
theorem dL_law_1189 : decode cL_law 1189 = .ok (.if_icmp .eq 455, 3) := dc_159 (b_L_law 1190 rfl) (b_L_law 1191 rfl) rfl (b_L_law 1189 rfl)
set_option maxRecDepth 20000 in
theorem dL_law_1192 : decode cL_law 1192 = .ok (.iconst 0, 1) := dc_3 (b_L_law 1192 rfl)
set_option maxRecDepth 20000 in
theorem dL_law_1193 : decode cL_law 1193 = .ok (.ireturn, 1) := dc_172 (b_L_law 1193 rfl)
set_option maxRecDepth 20000 in
theorem dL_law_1194 : decode cL_law 1194 = .ok (.aload_n 1, 1) := dc_43 (b_L_law 1194 rfl)
set_option maxRecDepth 20000 in
theorem dL_law_1195 : decode cL_law 1195 = .ok (.aload_n 0, 1) := dc_42 (b_L_law 1195 rfl)
set_option maxRecDepth 20000 in
theorem dL_law_1196 : decode cL_law 1196 = .ok (.iload 4, 2) := dc_21 (b_L_law 1197 rfl) (b_L_law 1196 rfl)
set_option maxRecDepth 20000 in
theorem dL_law_1198 : decode cL_law 1198 = .ok (.iconst 1, 1) := dc_4 (b_L_law 1198 rfl)
set_option maxRecDepth 20000 in
theorem dL_law_1199 : decode cL_law 1199 = .ok (.iadd, 1) := dc_96 (b_L_law 1199 rfl)
set_option maxRecDepth 20000 in
theorem dL_law_1200 : decode cL_law 1200 = .ok (.iaload, 1) := dc_46 (b_L_law 1200 rfl)
set_option maxRecDepth 20000 in
theorem dL_law_1201 : decode cL_law 1201 = .ok (.invokevirtual 131, 3) := dc_182 (b_L_law 1202 rfl) (b_L_law 1203 rfl) rfl (b_L_law 1201 rfl)
set_option maxRecDepth 20000 in
theorem dL_law_1204 : decode cL_law 1204 = .ok (.aload_n 2, 1) := dc_44 (b_L_law 1204 rfl)
set_option maxRecDepth 20000 in
theorem dL_law_1205 : decode cL_law 1205 = .ok (.aload_n 0, 1) := dc_42 (b_L_law 1205 rfl)
set_option maxRecDepth 20000 in
theorem dL_law_1206 : decode cL_law 1206 = .ok (.iload 4, 2) := dc_21 (b_L_law 1207 rfl) (b_L_law 1206 rfl)
set_option maxRecDepth 20000 in
theorem dL_law_1208 : decode cL_law 1208 = .ok (.iconst 1, 1) := dc_4 (b_L_law 1208 rfl)
set_option maxRecDepth 20000 in
theorem dL_law_1209 : decode cL_law 1209 = .ok (.iadd, 1) := dc_96 (b_L_law 1209 rfl)
set_option maxRecDepth 20000 in
theorem dL_law_1210 : decode cL_law 1210 = .ok (.iaload, 1) := dc_46 (b_L_law 1210 rfl)
set_option maxRecDepth 20000 in
theorem dL_law_1211 : decode cL_law 1211 = .ok (.invokevirtual 134, 3) := dc_182 (b_L_law 1212 rfl) (b_L_law 1213 rfl) rfl (b_L_law 1211 rfl)
set_option maxRecDepth 20000 in
theorem dL_law_1214 : decode cL_law 1214 = .ok (.if_icmp .eq 430, 3) := dc_159 (b_L_law 1215 rfl) (b_L_law 1216 rfl) rfl (b_L_law 1214 rfl)
set_option maxRecDepth 20000 in
theorem dL_law_1217 : decode cL_law 1217 = .ok (.iconst 0, 1) := dc_3 (b_L_law 1217 rfl)
set_option maxRecDepth 20000 in
theorem dL_law_1218 : decode cL_law 1218 = .ok (.ireturn, 1) := dc_172 (b_L_law 1218 rfl)
set_option maxRecDepth 20000 in
theorem dL_law_1219 : decode cL_law 1219 = .ok (.aload_n 1, 1) := dc_43 (b_L_law 1219 rfl)
set_option maxRecDepth 20000 in
theorem dL_law_1220 : decode cL_law 1220 = .ok (.aload_n 0, 1) := dc_42 (b_L_law 1220 rfl)
set_option maxRecDepth 20000 in
theorem dL_law_1221 : decode cL_law 1221 = .ok (.iload 4, 2) := dc_21 (b_L_law 1222 rfl) (b_L_law 1221 rfl)
set_option maxRecDepth 20000 in
theorem dL_law_1223 : decode cL_law 1223 = .ok (.iconst 1, 1) := dc_4 (b_L_law 1223 rfl)
set_option maxRecDepth 20000 in
theorem dL_law_1224 : decode cL_law 1224 = .ok (.iadd, 1) := dc_96 (b_L_law 1224 rfl)
set_option maxRecDepth 20000 in
theorem dL_law_1225 : decode cL_law 1225 = .ok (.iaload, 1) := dc_46 (b_L_law 1225 rfl)
set_option maxRecDepth 20000 in
theorem dL_law_1226 : decode cL_law 1226 = .ok (.invokevirtual 135, 3) := dc_182 (b_L_law 1227 rfl) (b_L_law 1228 rfl) rfl (b_L_law 1226 rfl)
set_option maxRecDepth 20000 in
theorem dL_law_1229 : decode cL_law 1229 = .ok (.aload_n 2, 1) := dc_44 (b_L_law 1229 rfl)
set_option maxRecDepth 20000 in
theorem dL_law_1230 : decode cL_law 1230 = .ok (.aload_n 0, 1) := dc_42 (b_L_law 1230 rfl)
set_option maxRecDepth 20000 in
theorem dL_law_1231 : decode cL_law 1231 = .ok (.iload 4, 2) := dc_21 (b_L_law 1232 rfl) (b_L_law 1231 rfl)
set_option maxRecDepth 20000 in
theorem dL_law_1233 : decode cL_law 1233 = .ok (.iconst 1, 1) := dc_4 (b_L_law 1233 rfl)
set_option maxRecDepth 20000 in
theorem dL_law_1234 : decode cL_law 1234 = .ok (.iadd, 1) := dc_96 (b_L_law 1234 rfl)
set_option maxRecDepth 20000 in
theorem dL_law_1235 : decode cL_law 1235 = .ok (.iaload, 1) := dc_46 (b_L_law 1235 rfl)
set_option maxRecDepth 20000 in
theorem dL_law_1236 : decode cL_law 1236 = .ok (.invokevirtual 138, 3) := dc_182 (b_L_law 1237 rfl) (b_L_law 1238 rfl) rfl (b_L_law 1236 rfl)
set_option maxRecDepth 20000 in
theorem dL_law_1239 : decode cL_law 1239 = .ok (.if_icmp .eq 405, 3) := dc_159 (b_L_law 1240 rfl) (b_L_law 1241 rfl) rfl (b_L_law 1239 rfl)
set_option maxRecDepth 20000 in
theorem dL_law_1242 : decode cL_law 1242 = .ok (.iconst 0, 1) := dc_3 (b_L_law 1242 rfl)
set_option maxRecDepth 20000 in
theorem dL_law_1243 : decode cL_law 1243 = .ok (.ireturn, 1) := dc_172 (b_L_law 1243 rfl)
set_option maxRecDepth 20000 in
theorem dL_law_1244 : decode cL_law 1244 = .ok (.aload_n 1, 1) := dc_43 (b_L_law 1244 rfl)
set_option maxRecDepth 20000 in
theorem dL_law_1245 : decode cL_law 1245 = .ok (.invokevirtual 139, 3) := dc_182 (b_L_law 1246 rfl) (b_L_law 1247 rfl) rfl (b_L_law 1245 rfl)
set_option maxRecDepth 20000 in
theorem dL_law_1248 : decode cL_law 1248 = .ok (.aload_n 2, 1) := dc_44 (b_L_law 1248 rfl)
set_option maxRecDepth 20000 in
theorem dL_law_1249 : decode cL_law 1249 = .ok (.invokevirtual 142, 3) := dc_182 (b_L_law 1250 rfl) (b_L_law 1251 rfl) rfl (b_L_law 1249 rfl)
set_option maxRecDepth 20000 in
theorem dL_law_1252 : decode cL_law 1252 = .ok (.if_icmp .eq 392, 3) := dc_159 (b_L_law 1253 rfl) (b_L_law 1254 rfl) rfl (b_L_law 1252 rfl)
set_option maxRecDepth 20000 in
theorem dL_law_1255 : decode cL_law 1255 = .ok (.iconst 0, 1) := dc_3 (b_L_law 1255 rfl)
set_option maxRecDepth 20000 in
theorem dL_law_1256 : decode cL_law 1256 = .ok (.ireturn, 1) := dc_172 (b_L_law 1256 rfl)
set_option maxRecDepth 20000 in
theorem dL_law_1257 : decode cL_law 1257 = .ok (.aload_n 1, 1) := dc_43 (b_L_law 1257 rfl)
set_option maxRecDepth 20000 in
theorem dL_law_1258 : decode cL_law 1258 = .ok (.invokevirtual 143, 3) := dc_182 (b_L_law 1259 rfl) (b_L_law 1260 rfl) rfl (b_L_law 1258 rfl)
set_option maxRecDepth 20000 in
theorem dL_law_1261 : decode cL_law 1261 = .ok (.aload_n 2, 1) := dc_44 (b_L_law 1261 rfl)
set_option maxRecDepth 20000 in
theorem dL_law_1262 : decode cL_law 1262 = .ok (.invokevirtual 146, 3) := dc_182 (b_L_law 1263 rfl) (b_L_law 1264 rfl) rfl (b_L_law 1262 rfl)
set_option maxRecDepth 20000 in
theorem dL_law_1265 : decode cL_law 1265 = .ok (.if_icmp .eq 379, 3) := dc_159 (b_L_law 1266 rfl) (b_L_law 1267 rfl) rfl (b_L_law 1265 rfl)
set_option maxRecDepth 20000 in
theorem dL_law_1268 : decode cL_law 1268 = .ok (.iconst 0, 1) := dc_3 (b_L_law 1268 rfl)
set_option maxRecDepth 20000 in
theorem dL_law_1269 : decode cL_law 1269 = .ok (.ireturn, 1) := dc_172 (b_L_law 1269 rfl)
set_option maxRecDepth 20000 in
theorem dL_law_1270 : decode cL_law 1270 = .ok (.aload_n 1, 1) := dc_43 (b_L_law 1270 rfl)
set_option maxRecDepth 20000 in
theorem dL_law_1271 : decode cL_law 1271 = .ok (.aload_n 0, 1) := dc_42 (b_L_law 1271 rfl)
set_option maxRecDepth 20000 in
theorem dL_law_1272 : decode cL_law 1272 = .ok (.iload 4, 2) := dc_21 (b_L_law 1273 rfl) (b_L_law 1272 rfl)
set_option maxRecDepth 20000 in
theorem dL_law_1274 : decode cL_law 1274 = .ok (.iconst 1, 1) := dc_4 (b_L_law 1274 rfl)
set_option maxRecDepth 20000 in
theorem dL_law_1275 : decode cL_law 1275 = .ok (.iadd, 1) := dc_96 (b_L_law 1275 rfl)
set_option maxRecDepth 20000 in
theorem dL_law_1276 : decode cL_law 1276 = .ok (.iaload, 1) := dc_46 (b_L_law 1276 rfl)
set_option maxRecDepth 20000 in
theorem dL_law_1277 : decode cL_law 1277 = .ok (.invokevirtual 147, 3) := dc_182 (b_L_law 1278 rfl) (b_L_law 1279 rfl) rfl (b_L_law 1277 rfl)
set_option maxRecDepth 20000 in
theorem dL_law_1280 : decode cL_law 1280 = .ok (.aload_n 2, 1) := dc_44 (b_L_law 1280 rfl)
set_option maxRecDepth 20000 in
theorem dL_law_1281 : decode cL_law 1281 = .ok (.aload_n 0, 1) := dc_42 (b_L_law 1281 rfl)
set_option maxRecDepth 20000 in
theorem dL_law_1282 : decode cL_law 1282 = .ok (.iload 4, 2) := dc_21 (b_L_law 1283 rfl) (b_L_law 1282 rfl)
set_option maxRecDepth 20000 in
theorem dL_law_1284 : decode cL_law 1284 = .ok (.iconst 1, 1) := dc_4 (b_L_law 1284 rfl)
set_option maxRecDepth 20000 in
theorem dL_law_1285 : decode cL_law 1285 = .ok (.iadd, 1) := dc_96 (b_L_law 1285 rfl)
set_option maxRecDepth 20000 in
theorem dL_law_1286 : decode cL_law 1286 = .ok (.iaload, 1) := dc_46 (b_L_law 1286 rfl)
set_option maxRecDepth 20000 in
theorem dL_law_1287 : decode cL_law 1287 = .ok (.invokevirtual 150, 3) := dc_182 (b_L_law 1288 rfl) (b_L_law 1289 rfl) rfl (b_L_law 1287 rfl)
set_option maxRecDepth 20000 in
theorem dL_law_1290 : decode cL_law 1290 = .ok (.if_icmp .eq 354, 3) := dc_159 (b_L_law 1291 rfl) (b_L_law 1292 rfl) rfl (b_L_law 1290 rfl)
set_option maxRecDepth 20000 in
theorem dL_law_1293 : decode cL_law 1293 = .ok (.iconst 0, 1) := dc_3 (b_L_law 1293 rfl)
set_option maxRecDepth 20000 in
theorem dL_law_1294 : decode cL_law 1294 = .ok (.ireturn, 1) := dc_172 (b_L_law 1294 rfl)
set_option maxRecDepth 20000 in
theorem dL_law_1295 : decode cL_law 1295 = .ok (.aload_n 1, 1) := dc_43 (b_L_law 1295 rfl)
set_option maxRecDepth 20000 in
theorem dL_law_1296 : decode cL_law 1296 = .ok (.aload_n 0, 1) := dc_42 (b_L_law 1296 rfl)
set_option maxRecDepth 20000 in
theorem dL_law_1297 : decode cL_law 1297 = .ok (.iload 4, 2) := dc_21 (b_L_law 1298 rfl) (b_L_law 1297 rfl)
set_option maxRecDepth 20000 in
theorem dL_law_1299 : decode cL_law 1299 = .ok (.iconst 1, 1) := dc_4 (b_L_law 1299 rfl)
set_option maxRecDepth 20000 in
theorem dL_law_1300 : decode cL_law 1300 = .ok (.iadd, 1) := dc_96 (b_L_law 1300 rfl)
set_option maxRecDepth 20000 in
theorem dL_law_1301 : decode cL_law 1301 = .ok (.iaload, 1) := dc_46 (b_L_law 1301 rfl)
set_option maxRecDepth 20000 in
theorem dL_law_1302 : decode cL_law 1302 = .ok (.aload_n 0, 1) := dc_42 (b_L_law 1302 rfl)
set_option maxRecDepth 20000 in
theorem dL_law_1303 : decode cL_law 1303 = .ok (.iload 4, 2) := dc_21 (b_L_law 1304 rfl) (b_L_law 1303 rfl)
set_option maxRecDepth 20000 in
theorem dL_law_1305 : decode cL_law 1305 = .ok (.iconst 2, 1) := dc_5 (b_L_law 1305 rfl)
set_option maxRecDepth 20000 in
theorem dL_law_1306 : decode cL_law 1306 = .ok (.iadd, 1) := dc_96 (b_L_law 1306 rfl)
set_option maxRecDepth 20000 in
theorem dL_law_1307 : decode cL_law 1307 = .ok (.iaload, 1) := dc_46 (b_L_law 1307 rfl)
set_option maxRecDepth 20000 in
theorem dL_law_1308 : decode cL_law 1308 = .ok (.aload_n 0, 1) := dc_42 (b_L_law 1308 rfl)
set_option maxRecDepth 20000 in
theorem dL_law_1309 : decode cL_law 1309 = .ok (.iload 4, 2) := dc_21 (b_L_law 1310 rfl) (b_L_law 1309 rfl)
set_option maxRecDepth 20000 in
theorem dL_law_1311 : decode cL_law 1311 = .ok (.iconst 3, 1) := dc_6 (b_L_law 1311 rfl)
set_option maxRecDepth 20000 in
theorem dL_law_1312 : decode cL_law 1312 = .ok (.iadd, 1) := dc_96 (b_L_law 1312 rfl)
set_option maxRecDepth 20000 in
theorem dL_law_1313 : decode cL_law 1313 = .ok (.iaload, 1) := dc_46 (b_L_law 1313 rfl)
set_option maxRecDepth 20000 in
theorem dL_law_1314 : decode cL_law 1314 = .ok (.aload_n 0, 1) := dc_42 (b_L_law 1314 rfl)
set_option maxRecDepth 20000 in
theorem dL_law_1315 : decode cL_law 1315 = .ok (.iload 4, 2) := dc_21 (b_L_law 1316 rfl) (b_L_law 1315 rfl)
set_option maxRecDepth 20000 in
theorem dL_law_1317 : decode cL_law 1317 = .ok (.iconst 4, 1) := dc_7 (b_L_law 1317 rfl)
set_option maxRecDepth 20000 in
theorem dL_law_1318 : decode cL_law 1318 = .ok (.iadd, 1) := dc_96 (b_L_law 1318 rfl)
set_option maxRecDepth 20000 in
theorem dL_law_1319 : decode cL_law 1319 = .ok (.iaload, 1) := dc_46 (b_L_law 1319 rfl)
set_option maxRecDepth 20000 in
theorem dL_law_1320 : decode cL_law 1320 = .ok (.invokevirtual 151, 3) := dc_182 (b_L_law 1321 rfl) (b_L_law 1322 rfl) rfl (b_L_law 1320 rfl)
set_option maxRecDepth 20000 in
theorem dL_law_1323 : decode cL_law 1323 = .ok (.aload_n 2, 1) := dc_44 (b_L_law 1323 rfl)
set_option maxRecDepth 20000 in
theorem dL_law_1324 : decode cL_law 1324 = .ok (.aload_n 0, 1) := dc_42 (b_L_law 1324 rfl)
set_option maxRecDepth 20000 in
theorem dL_law_1325 : decode cL_law 1325 = .ok (.iload 4, 2) := dc_21 (b_L_law 1326 rfl) (b_L_law 1325 rfl)
set_option maxRecDepth 20000 in
theorem dL_law_1327 : decode cL_law 1327 = .ok (.iconst 1, 1) := dc_4 (b_L_law 1327 rfl)
set_option maxRecDepth 20000 in
theorem dL_law_1328 : decode cL_law 1328 = .ok (.iadd, 1) := dc_96 (b_L_law 1328 rfl)
set_option maxRecDepth 20000 in
theorem dL_law_1329 : decode cL_law 1329 = .ok (.iaload, 1) := dc_46 (b_L_law 1329 rfl)
set_option maxRecDepth 20000 in
theorem dL_law_1330 : decode cL_law 1330 = .ok (.aload_n 0, 1) := dc_42 (b_L_law 1330 rfl)
set_option maxRecDepth 20000 in
theorem dL_law_1331 : decode cL_law 1331 = .ok (.iload 4, 2) := dc_21 (b_L_law 1332 rfl) (b_L_law 1331 rfl)
set_option maxRecDepth 20000 in
theorem dL_law_1333 : decode cL_law 1333 = .ok (.iconst 2, 1) := dc_5 (b_L_law 1333 rfl)
set_option maxRecDepth 20000 in
theorem dL_law_1334 : decode cL_law 1334 = .ok (.iadd, 1) := dc_96 (b_L_law 1334 rfl)
set_option maxRecDepth 20000 in
theorem dL_law_1335 : decode cL_law 1335 = .ok (.iaload, 1) := dc_46 (b_L_law 1335 rfl)
set_option maxRecDepth 20000 in
theorem dL_law_1336 : decode cL_law 1336 = .ok (.aload_n 0, 1) := dc_42 (b_L_law 1336 rfl)
set_option maxRecDepth 20000 in
theorem dL_law_1337 : decode cL_law 1337 = .ok (.iload 4, 2) := dc_21 (b_L_law 1338 rfl) (b_L_law 1337 rfl)
set_option maxRecDepth 20000 in
theorem dL_law_1339 : decode cL_law 1339 = .ok (.iconst 3, 1) := dc_6 (b_L_law 1339 rfl)
set_option maxRecDepth 20000 in
theorem dL_law_1340 : decode cL_law 1340 = .ok (.iadd, 1) := dc_96 (b_L_law 1340 rfl)
set_option maxRecDepth 20000 in
theorem dL_law_1341 : decode cL_law 1341 = .ok (.iaload, 1) := dc_46 (b_L_law 1341 rfl)
set_option maxRecDepth 20000 in
theorem dL_law_1342 : decode cL_law 1342 = .ok (.aload_n 0, 1) := dc_42 (b_L_law 1342 rfl)
set_option maxRecDepth 20000 in
theorem dL_law_1343 : decode cL_law 1343 = .ok (.iload 4, 2) := dc_21 (b_L_law 1344 rfl) (b_L_law 1343 rfl)
set_option maxRecDepth 20000 in
theorem dL_law_1345 : decode cL_law 1345 = .ok (.iconst 4, 1) := dc_7 (b_L_law 1345 rfl)
set_option maxRecDepth 20000 in
theorem dL_law_1346 : decode cL_law 1346 = .ok (.iadd, 1) := dc_96 (b_L_law 1346 rfl)
set_option maxRecDepth 20000 in
theorem dL_law_1347 : decode cL_law 1347 = .ok (.iaload, 1) := dc_46 (b_L_law 1347 rfl)
set_option maxRecDepth 20000 in
theorem dL_law_1348 : decode cL_law 1348 = .ok (.invokevirtual 154, 3) := dc_182 (b_L_law 1349 rfl) (b_L_law 1350 rfl) rfl (b_L_law 1348 rfl)
set_option maxRecDepth 20000 in
theorem dL_law_1351 : decode cL_law 1351 = .ok (.if_icmp .eq 293, 3) := dc_159 (b_L_law 1352 rfl) (b_L_law 1353 rfl) rfl (b_L_law 1351 rfl)
set_option maxRecDepth 20000 in
theorem dL_law_1354 : decode cL_law 1354 = .ok (.iconst 0, 1) := dc_3 (b_L_law 1354 rfl)
set_option maxRecDepth 20000 in
theorem dL_law_1355 : decode cL_law 1355 = .ok (.ireturn, 1) := dc_172 (b_L_law 1355 rfl)
set_option maxRecDepth 20000 in
theorem dL_law_1356 : decode cL_law 1356 = .ok (.aload_n 1, 1) := dc_43 (b_L_law 1356 rfl)
set_option maxRecDepth 20000 in
theorem dL_law_1357 : decode cL_law 1357 = .ok (.aload_n 0, 1) := dc_42 (b_L_law 1357 rfl)
set_option maxRecDepth 20000 in
theorem dL_law_1358 : decode cL_law 1358 = .ok (.iload 4, 2) := dc_21 (b_L_law 1359 rfl) (b_L_law 1358 rfl)
set_option maxRecDepth 20000 in
theorem dL_law_1360 : decode cL_law 1360 = .ok (.iconst 1, 1) := dc_4 (b_L_law 1360 rfl)
set_option maxRecDepth 20000 in
theorem dL_law_1361 : decode cL_law 1361 = .ok (.iadd, 1) := dc_96 (b_L_law 1361 rfl)
set_option maxRecDepth 20000 in
theorem dL_law_1362 : decode cL_law 1362 = .ok (.iaload, 1) := dc_46 (b_L_law 1362 rfl)
set_option maxRecDepth 20000 in
theorem dL_law_1363 : decode cL_law 1363 = .ok (.aload_n 0, 1) := dc_42 (b_L_law 1363 rfl)
set_option maxRecDepth 20000 in
theorem dL_law_1364 : decode cL_law 1364 = .ok (.iload 4, 2) := dc_21 (b_L_law 1365 rfl) (b_L_law 1364 rfl)
set_option maxRecDepth 20000 in
theorem dL_law_1366 : decode cL_law 1366 = .ok (.iconst 2, 1) := dc_5 (b_L_law 1366 rfl)
set_option maxRecDepth 20000 in
theorem dL_law_1367 : decode cL_law 1367 = .ok (.iadd, 1) := dc_96 (b_L_law 1367 rfl)
set_option maxRecDepth 20000 in
theorem dL_law_1368 : decode cL_law 1368 = .ok (.iaload, 1) := dc_46 (b_L_law 1368 rfl)
set_option maxRecDepth 20000 in
theorem dL_law_1369 : decode cL_law 1369 = .ok (.aload_n 0, 1) := dc_42 (b_L_law 1369 rfl)
set_option maxRecDepth 20000 in
theorem dL_law_1370 : decode cL_law 1370 = .ok (.iload 4, 2) := dc_21 (b_L_law 1371 rfl) (b_L_law 1370 rfl)
set_option maxRecDepth 20000 in
theorem dL_law_1372 : decode cL_law 1372 = .ok (.iconst 3, 1) := dc_6 (b_L_law 1372 rfl)
set_option maxRecDepth 20000 in
theorem dL_law_1373 : decode cL_law 1373 = .ok (.iadd, 1) := dc_96 (b_L_law 1373 rfl)
set_option maxRecDepth 20000 in
theorem dL_law_1374 : decode cL_law 1374 = .ok (.iaload, 1) := dc_46 (b_L_law 1374 rfl)
set_option maxRecDepth 20000 in
theorem dL_law_1375 : decode cL_law 1375 = .ok (.invokevirtual 155, 3) := dc_182 (b_L_law 1376 rfl) (b_L_law 1377 rfl) rfl (b_L_law 1375 rfl)
set_option maxRecDepth 20000 in
theorem dL_law_1378 : decode cL_law 1378 = .ok (.aload_n 2, 1) := dc_44 (b_L_law 1378 rfl)
set_option maxRecDepth 20000 in
theorem dL_law_1379 : decode cL_law 1379 = .ok (.aload_n 0, 1) := dc_42 (b_L_law 1379 rfl)
set_option maxRecDepth 20000 in
theorem dL_law_1380 : decode cL_law 1380 = .ok (.iload 4, 2) := dc_21 (b_L_law 1381 rfl) (b_L_law 1380 rfl)
set_option maxRecDepth 20000 in
theorem dL_law_1382 : decode cL_law 1382 = .ok (.iconst 1, 1) := dc_4 (b_L_law 1382 rfl)
set_option maxRecDepth 20000 in
theorem dL_law_1383 : decode cL_law 1383 = .ok (.iadd, 1) := dc_96 (b_L_law 1383 rfl)
set_option maxRecDepth 20000 in
theorem dL_law_1384 : decode cL_law 1384 = .ok (.iaload, 1) := dc_46 (b_L_law 1384 rfl)
set_option maxRecDepth 20000 in
theorem dL_law_1385 : decode cL_law 1385 = .ok (.aload_n 0, 1) := dc_42 (b_L_law 1385 rfl)
set_option maxRecDepth 20000 in
theorem dL_law_1386 : decode cL_law 1386 = .ok (.iload 4, 2) := dc_21 (b_L_law 1387 rfl) (b_L_law 1386 rfl)
set_option maxRecDepth 20000 in
theorem dL_law_1388 : decode cL_law 1388 = .ok (.iconst 2, 1) := dc_5 (b_L_law 1388 rfl)
set_option maxRecDepth 20000 in
theorem dL_law_1389 : decode cL_law 1389 = .ok (.iadd, 1) := dc_96 (b_L_law 1389 rfl)
set_option maxRecDepth 20000 in
theorem dL_law_1390 : decode cL_law 1390 = .ok (.iaload, 1) := dc_46 (b_L_law 1390 rfl)
set_option maxRecDepth 20000 in
theorem dL_law_1391 : decode cL_law 1391 = .ok (.aload_n 0, 1) := dc_42 (b_L_law 1391 rfl)
set_option maxRecDepth 20000 in
theorem dL_law_1392 : decode cL_law 1392 = .ok (.iload 4, 2) := dc_21 (b_L_law 1393 rfl) (b_L_law 1392 rfl)
set_option maxRecDepth 20000 in
theorem dL_law_1394 : decode cL_law 1394 = .ok (.iconst 3, 1) := dc_6 (b_L_law 1394 rfl)
set_option maxRecDepth 20000 in
theorem dL_law_1395 : decode cL_law 1395 = .ok (.iadd, 1) := dc_96 (b_L_law 1395 rfl)
set_option maxRecDepth 20000 in
theorem dL_law_1396 : decode cL_law 1396 = .ok (.iaload, 1) := dc_46 (b_L_law 1396 rfl)
set_option maxRecDepth 20000 in
theorem dL_law_1397 : decode cL_law 1397 = .ok (.invokevirtual 158, 3) := dc_182 (b_L_law 1398 rfl) (b_L_law 1399 rfl) rfl (b_L_law 1397 rfl)
set_option maxRecDepth 20000 in
theorem dL_law_1400 : decode cL_law 1400 = .ok (.if_icmp .eq 244, 3) := dc_159 (b_L_law 1401 rfl) (b_L_law 1402 rfl) rfl (b_L_law 1400 rfl)
set_option maxRecDepth 20000 in
theorem dL_law_1403 : decode cL_law 1403 = .ok (.iconst 0, 1) := dc_3 (b_L_law 1403 rfl)
set_option maxRecDepth 20000 in
theorem dL_law_1404 : decode cL_law 1404 = .ok (.ireturn, 1) := dc_172 (b_L_law 1404 rfl)
set_option maxRecDepth 20000 in
theorem dL_law_1405 : decode cL_law 1405 = .ok (.aload_n 1, 1) := dc_43 (b_L_law 1405 rfl)
set_option maxRecDepth 20000 in
theorem dL_law_1406 : decode cL_law 1406 = .ok (.aload_n 0, 1) := dc_42 (b_L_law 1406 rfl)
set_option maxRecDepth 20000 in
theorem dL_law_1407 : decode cL_law 1407 = .ok (.iload 4, 2) := dc_21 (b_L_law 1408 rfl) (b_L_law 1407 rfl)
set_option maxRecDepth 20000 in
theorem dL_law_1409 : decode cL_law 1409 = .ok (.iconst 1, 1) := dc_4 (b_L_law 1409 rfl)
set_option maxRecDepth 20000 in
theorem dL_law_1410 : decode cL_law 1410 = .ok (.iadd, 1) := dc_96 (b_L_law 1410 rfl)
set_option maxRecDepth 20000 in
theorem dL_law_1411 : decode cL_law 1411 = .ok (.iaload, 1) := dc_46 (b_L_law 1411 rfl)
set_option maxRecDepth 20000 in
theorem dL_law_1412 : decode cL_law 1412 = .ok (.aload_n 0, 1) := dc_42 (b_L_law 1412 rfl)
set_option maxRecDepth 20000 in
theorem dL_law_1413 : decode cL_law 1413 = .ok (.iload 4, 2) := dc_21 (b_L_law 1414 rfl) (b_L_law 1413 rfl)
set_option maxRecDepth 20000 in
theorem dL_law_1415 : decode cL_law 1415 = .ok (.iconst 2, 1) := dc_5 (b_L_law 1415 rfl)
set_option maxRecDepth 20000 in
theorem dL_law_1416 : decode cL_law 1416 = .ok (.iadd, 1) := dc_96 (b_L_law 1416 rfl)
set_option maxRecDepth 20000 in
theorem dL_law_1417 : decode cL_law 1417 = .ok (.iaload, 1) := dc_46 (b_L_law 1417 rfl)
set_option maxRecDepth 20000 in
theorem dL_law_1418 : decode cL_law 1418 = .ok (.aload_n 0, 1) := dc_42 (b_L_law 1418 rfl)
set_option maxRecDepth 20000 in
theorem dL_law_1419 : decode cL_law 1419 = .ok (.iload 4, 2) := dc_21 (b_L_law 1420 rfl) (b_L_law 1419 rfl)
set_option maxRecDepth 20000 in
theorem dL_law_1421 : decode cL_law 1421 = .ok (.iconst 3, 1) := dc_6 (b_L_law 1421 rfl)
set_option maxRecDepth 20000 in
theorem dL_law_1422 : decode cL_law 1422 = .ok (.iadd, 1) := dc_96 (b_L_law 1422 rfl)
set_option maxRecDepth 20000 in
theorem dL_law_1423 : decode cL_law 1423 = .ok (.iaload, 1) := dc_46 (b_L_law 1423 rfl)
set_option maxRecDepth 20000 in
theorem dL_law_1424 : decode cL_law 1424 = .ok (.invokevirtual 159, 3) := dc_182 (b_L_law 1425 rfl) (b_L_law 1426 rfl) rfl (b_L_law 1424 rfl)
set_option maxRecDepth 20000 in
theorem dL_law_1427 : decode cL_law 1427 = .ok (.aload_n 2, 1) := dc_44 (b_L_law 1427 rfl)
set_option maxRecDepth 20000 in
theorem dL_law_1428 : decode cL_law 1428 = .ok (.aload_n 0, 1) := dc_42 (b_L_law 1428 rfl)
set_option maxRecDepth 20000 in
theorem dL_law_1429 : decode cL_law 1429 = .ok (.iload 4, 2) := dc_21 (b_L_law 1430 rfl) (b_L_law 1429 rfl)
set_option maxRecDepth 20000 in
theorem dL_law_1431 : decode cL_law 1431 = .ok (.iconst 1, 1) := dc_4 (b_L_law 1431 rfl)
set_option maxRecDepth 20000 in
theorem dL_law_1432 : decode cL_law 1432 = .ok (.iadd, 1) := dc_96 (b_L_law 1432 rfl)
set_option maxRecDepth 20000 in
theorem dL_law_1433 : decode cL_law 1433 = .ok (.iaload, 1) := dc_46 (b_L_law 1433 rfl)
set_option maxRecDepth 20000 in
theorem dL_law_1434 : decode cL_law 1434 = .ok (.aload_n 0, 1) := dc_42 (b_L_law 1434 rfl)
set_option maxRecDepth 20000 in
theorem dL_law_1435 : decode cL_law 1435 = .ok (.iload 4, 2) := dc_21 (b_L_law 1436 rfl) (b_L_law 1435 rfl)
set_option maxRecDepth 20000 in
theorem dL_law_1437 : decode cL_law 1437 = .ok (.iconst 2, 1) := dc_5 (b_L_law 1437 rfl)
set_option maxRecDepth 20000 in
theorem dL_law_1438 : decode cL_law 1438 = .ok (.iadd, 1) := dc_96 (b_L_law 1438 rfl)
set_option maxRecDepth 20000 in
theorem dL_law_1439 : decode cL_law 1439 = .ok (.iaload, 1) := dc_46 (b_L_law 1439 rfl)
set_option maxRecDepth 20000 in
theorem dL_law_1440 : decode cL_law 1440 = .ok (.aload_n 0, 1) := dc_42 (b_L_law 1440 rfl)
set_option maxRecDepth 20000 in
theorem dL_law_1441 : decode cL_law 1441 = .ok (.iload 4, 2) := dc_21 (b_L_law 1442 rfl) (b_L_law 1441 rfl)
set_option maxRecDepth 20000 in
theorem dL_law_1443 : decode cL_law 1443 = .ok (.iconst 3, 1) := dc_6 (b_L_law 1443 rfl)
set_option maxRecDepth 20000 in
theorem dL_law_1444 : decode cL_law 1444 = .ok (.iadd, 1) := dc_96 (b_L_law 1444 rfl)
set_option maxRecDepth 20000 in
theorem dL_law_1445 : decode cL_law 1445 = .ok (.iaload, 1) := dc_46 (b_L_law 1445 rfl)
set_option maxRecDepth 20000 in
theorem dL_law_1446 : decode cL_law 1446 = .ok (.invokevirtual 162, 3) := dc_182 (b_L_law 1447 rfl) (b_L_law 1448 rfl) rfl (b_L_law 1446 rfl)
set_option maxRecDepth 20000 in
theorem dL_law_1449 : decode cL_law 1449 = .ok (.if_icmp .eq 195, 3) := dc_159 (b_L_law 1450 rfl) (b_L_law 1451 rfl) rfl (b_L_law 1449 rfl)
set_option maxRecDepth 20000 in
theorem dL_law_1452 : decode cL_law 1452 = .ok (.iconst 0, 1) := dc_3 (b_L_law 1452 rfl)
set_option maxRecDepth 20000 in
theorem dL_law_1453 : decode cL_law 1453 = .ok (.ireturn, 1) := dc_172 (b_L_law 1453 rfl)
set_option maxRecDepth 20000 in
theorem dL_law_1454 : decode cL_law 1454 = .ok (.aload_n 1, 1) := dc_43 (b_L_law 1454 rfl)
set_option maxRecDepth 20000 in
theorem dL_law_1455 : decode cL_law 1455 = .ok (.aload_n 0, 1) := dc_42 (b_L_law 1455 rfl)
set_option maxRecDepth 20000 in
theorem dL_law_1456 : decode cL_law 1456 = .ok (.iload 4, 2) := dc_21 (b_L_law 1457 rfl) (b_L_law 1456 rfl)
set_option maxRecDepth 20000 in
theorem dL_law_1458 : decode cL_law 1458 = .ok (.iconst 1, 1) := dc_4 (b_L_law 1458 rfl)
set_option maxRecDepth 20000 in
theorem dL_law_1459 : decode cL_law 1459 = .ok (.iadd, 1) := dc_96 (b_L_law 1459 rfl)
set_option maxRecDepth 20000 in
theorem dL_law_1460 : decode cL_law 1460 = .ok (.iaload, 1) := dc_46 (b_L_law 1460 rfl)
set_option maxRecDepth 20000 in
theorem dL_law_1461 : decode cL_law 1461 = .ok (.aload_n 0, 1) := dc_42 (b_L_law 1461 rfl)
set_option maxRecDepth 20000 in
theorem dL_law_1462 : decode cL_law 1462 = .ok (.iload 4, 2) := dc_21 (b_L_law 1463 rfl) (b_L_law 1462 rfl)
set_option maxRecDepth 20000 in
theorem dL_law_1464 : decode cL_law 1464 = .ok (.iconst 2, 1) := dc_5 (b_L_law 1464 rfl)
set_option maxRecDepth 20000 in
theorem dL_law_1465 : decode cL_law 1465 = .ok (.iadd, 1) := dc_96 (b_L_law 1465 rfl)
set_option maxRecDepth 20000 in
theorem dL_law_1466 : decode cL_law 1466 = .ok (.iaload, 1) := dc_46 (b_L_law 1466 rfl)
set_option maxRecDepth 20000 in
theorem dL_law_1467 : decode cL_law 1467 = .ok (.aload_n 3, 1) := dc_45 (b_L_law 1467 rfl)
set_option maxRecDepth 20000 in
theorem dL_law_1468 : decode cL_law 1468 = .ok (.invokestatic 163, 3) := dc_184 (b_L_law 1469 rfl) (b_L_law 1470 rfl) rfl (b_L_law 1468 rfl)
set_option maxRecDepth 20000 in
theorem dL_law_1471 : decode cL_law 1471 = .ok (.istore 5, 2) := dc_54 (b_L_law 1472 rfl) (b_L_law 1471 rfl)
set_option maxRecDepth 20000 in
theorem dL_law_1473 : decode cL_law 1473 = .ok (.aload_n 2, 1) := dc_44 (b_L_law 1473 rfl)
set_option maxRecDepth 20000 in
theorem dL_law_1474 : decode cL_law 1474 = .ok (.aload_n 0, 1) := dc_42 (b_L_law 1474 rfl)
set_option maxRecDepth 20000 in
theorem dL_law_1475 : decode cL_law 1475 = .ok (.iload 4, 2) := dc_21 (b_L_law 1476 rfl) (b_L_law 1475 rfl)
set_option maxRecDepth 20000 in
theorem dL_law_1477 : decode cL_law 1477 = .ok (.iconst 1, 1) := dc_4 (b_L_law 1477 rfl)
set_option maxRecDepth 20000 in
theorem dL_law_1478 : decode cL_law 1478 = .ok (.iadd, 1) := dc_96 (b_L_law 1478 rfl)
set_option maxRecDepth 20000 in
theorem dL_law_1479 : decode cL_law 1479 = .ok (.iaload, 1) := dc_46 (b_L_law 1479 rfl)
set_option maxRecDepth 20000 in
theorem dL_law_1480 : decode cL_law 1480 = .ok (.aload_n 0, 1) := dc_42 (b_L_law 1480 rfl)
set_option maxRecDepth 20000 in
theorem dL_law_1481 : decode cL_law 1481 = .ok (.iload 4, 2) := dc_21 (b_L_law 1482 rfl) (b_L_law 1481 rfl)
set_option maxRecDepth 20000 in
theorem dL_law_1483 : decode cL_law 1483 = .ok (.iconst 2, 1) := dc_5 (b_L_law 1483 rfl)
set_option maxRecDepth 20000 in
theorem dL_law_1484 : decode cL_law 1484 = .ok (.iadd, 1) := dc_96 (b_L_law 1484 rfl)
set_option maxRecDepth 20000 in
theorem dL_law_1485 : decode cL_law 1485 = .ok (.iaload, 1) := dc_46 (b_L_law 1485 rfl)
set_option maxRecDepth 20000 in
theorem dL_law_1486 : decode cL_law 1486 = .ok (.invokevirtual 168, 3) := dc_182 (b_L_law 1487 rfl) (b_L_law 1488 rfl) rfl (b_L_law 1486 rfl)
set_option maxRecDepth 20000 in
theorem dL_law_1489 : decode cL_law 1489 = .ok (.lstore 6, 2) := dc_55 (b_L_law 1490 rfl) (b_L_law 1489 rfl)
set_option maxRecDepth 20000 in
theorem dL_law_1491 : decode cL_law 1491 = .ok (.aload_n 2, 1) := dc_44 (b_L_law 1491 rfl)
set_option maxRecDepth 20000 in
theorem dL_law_1492 : decode cL_law 1492 = .ok (.invokevirtual 169, 3) := dc_182 (b_L_law 1493 rfl) (b_L_law 1494 rfl) rfl (b_L_law 1492 rfl)
set_option maxRecDepth 20000 in
theorem dL_law_1495 : decode cL_law 1495 = .ok (.iload 5, 2) := dc_21 (b_L_law 1496 rfl) (b_L_law 1495 rfl)
set_option maxRecDepth 20000 in
theorem dL_law_1497 : decode cL_law 1497 = .ok (.if_icmp .eq 5, 3) := dc_159 (b_L_law 1498 rfl) (b_L_law 1499 rfl) rfl (b_L_law 1497 rfl)
set_option maxRecDepth 20000 in
theorem dL_law_1500 : decode cL_law 1500 = .ok (.iconst 0, 1) := dc_3 (b_L_law 1500 rfl)
set_option maxRecDepth 20000 in
theorem dL_law_1501 : decode cL_law 1501 = .ok (.ireturn, 1) := dc_172 (b_L_law 1501 rfl)
set_option maxRecDepth 20000 in
theorem dL_law_1502 : decode cL_law 1502 = .ok (.iload 5, 2) := dc_21 (b_L_law 1503 rfl) (b_L_law 1502 rfl)
set_option maxRecDepth 20000 in
theorem dL_law_1504 : decode cL_law 1504 = .ok (.ifCond .ne 14, 3) := dc_154 (b_L_law 1505 rfl) (b_L_law 1506 rfl) rfl (b_L_law 1504 rfl)
set_option maxRecDepth 20000 in
theorem dL_law_1507 : decode cL_law 1507 = .ok (.aload_n 3, 1) := dc_45 (b_L_law 1507 rfl)
set_option maxRecDepth 20000 in
theorem dL_law_1508 : decode cL_law 1508 = .ok (.iconst 0, 1) := dc_3 (b_L_law 1508 rfl)
set_option maxRecDepth 20000 in
theorem dL_law_1509 : decode cL_law 1509 = .ok (.laload, 1) := dc_47 (b_L_law 1509 rfl)
set_option maxRecDepth 20000 in
theorem dL_law_1510 : decode cL_law 1510 = .ok (.lload 6, 2) := dc_22 (b_L_law 1511 rfl) (b_L_law 1510 rfl)
set_option maxRecDepth 20000 in
theorem dL_law_1512 : decode cL_law 1512 = .ok (.lcmp, 1) := dc_148 (b_L_law 1512 rfl)
set_option maxRecDepth 20000 in
theorem dL_law_1513 : decode cL_law 1513 = .ok (.ifCond .eq 5, 3) := dc_153 (b_L_law 1514 rfl) (b_L_law 1515 rfl) rfl (b_L_law 1513 rfl)
set_option maxRecDepth 20000 in
theorem dL_law_1516 : decode cL_law 1516 = .ok (.iconst 0, 1) := dc_3 (b_L_law 1516 rfl)
set_option maxRecDepth 20000 in
theorem dL_law_1517 : decode cL_law 1517 = .ok (.ireturn, 1) := dc_172 (b_L_law 1517 rfl)
set_option maxRecDepth 20000 in
theorem dL_law_1518 : decode cL_law 1518 = .ok (.goto 126, 3) := dc_167 (b_L_law 1519 rfl) (b_L_law 1520 rfl) rfl (b_L_law 1518 rfl)
set_option maxRecDepth 20000 in
theorem dL_law_1521 : decode cL_law 1521 = .ok (.aload_n 1, 1) := dc_43 (b_L_law 1521 rfl)
set_option maxRecDepth 20000 in
theorem dL_law_1522 : decode cL_law 1522 = .ok (.aload_n 0, 1) := dc_42 (b_L_law 1522 rfl)
set_option maxRecDepth 20000 in
theorem dL_law_1523 : decode cL_law 1523 = .ok (.iload 4, 2) := dc_21 (b_L_law 1524 rfl) (b_L_law 1523 rfl)
set_option maxRecDepth 20000 in
theorem dL_law_1525 : decode cL_law 1525 = .ok (.iconst 1, 1) := dc_4 (b_L_law 1525 rfl)
set_option maxRecDepth 20000 in
theorem dL_law_1526 : decode cL_law 1526 = .ok (.iadd, 1) := dc_96 (b_L_law 1526 rfl)
set_option maxRecDepth 20000 in
theorem dL_law_1527 : decode cL_law 1527 = .ok (.iaload, 1) := dc_46 (b_L_law 1527 rfl)
set_option maxRecDepth 20000 in
theorem dL_law_1528 : decode cL_law 1528 = .ok (.aload_n 0, 1) := dc_42 (b_L_law 1528 rfl)
set_option maxRecDepth 20000 in
theorem dL_law_1529 : decode cL_law 1529 = .ok (.iload 4, 2) := dc_21 (b_L_law 1530 rfl) (b_L_law 1529 rfl)
set_option maxRecDepth 20000 in
theorem dL_law_1531 : decode cL_law 1531 = .ok (.iconst 2, 1) := dc_5 (b_L_law 1531 rfl)
set_option maxRecDepth 20000 in
theorem dL_law_1532 : decode cL_law 1532 = .ok (.iadd, 1) := dc_96 (b_L_law 1532 rfl)
set_option maxRecDepth 20000 in
theorem dL_law_1533 : decode cL_law 1533 = .ok (.iaload, 1) := dc_46 (b_L_law 1533 rfl)
set_option maxRecDepth 20000 in
theorem dL_law_1534 : decode cL_law 1534 = .ok (.aload_n 0, 1) := dc_42 (b_L_law 1534 rfl)
set_option maxRecDepth 20000 in
theorem dL_law_1535 : decode cL_law 1535 = .ok (.iload 4, 2) := dc_21 (b_L_law 1536 rfl) (b_L_law 1535 rfl)
set_option maxRecDepth 20000 in
theorem dL_law_1537 : decode cL_law 1537 = .ok (.iconst 3, 1) := dc_6 (b_L_law 1537 rfl)
set_option maxRecDepth 20000 in
theorem dL_law_1538 : decode cL_law 1538 = .ok (.iadd, 1) := dc_96 (b_L_law 1538 rfl)
set_option maxRecDepth 20000 in
theorem dL_law_1539 : decode cL_law 1539 = .ok (.iaload, 1) := dc_46 (b_L_law 1539 rfl)
set_option maxRecDepth 20000 in
theorem dL_law_1540 : decode cL_law 1540 = .ok (.aload_n 0, 1) := dc_42 (b_L_law 1540 rfl)
set_option maxRecDepth 20000 in
theorem dL_law_1541 : decode cL_law 1541 = .ok (.iload 4, 2) := dc_21 (b_L_law 1542 rfl) (b_L_law 1541 rfl)
set_option maxRecDepth 20000 in
theorem dL_law_1543 : decode cL_law 1543 = .ok (.iconst 4, 1) := dc_7 (b_L_law 1543 rfl)
set_option maxRecDepth 20000 in
theorem dL_law_1544 : decode cL_law 1544 = .ok (.iadd, 1) := dc_96 (b_L_law 1544 rfl)
set_option maxRecDepth 20000 in
theorem dL_law_1545 : decode cL_law 1545 = .ok (.iaload, 1) := dc_46 (b_L_law 1545 rfl)
set_option maxRecDepth 20000 in
theorem dL_law_1546 : decode cL_law 1546 = .ok (.aload_n 0, 1) := dc_42 (b_L_law 1546 rfl)
set_option maxRecDepth 20000 in
theorem dL_law_1547 : decode cL_law 1547 = .ok (.iload 4, 2) := dc_21 (b_L_law 1548 rfl) (b_L_law 1547 rfl)
set_option maxRecDepth 20000 in
theorem dL_law_1549 : decode cL_law 1549 = .ok (.iconst 5, 1) := dc_8 (b_L_law 1549 rfl)
set_option maxRecDepth 20000 in
theorem dL_law_1550 : decode cL_law 1550 = .ok (.iadd, 1) := dc_96 (b_L_law 1550 rfl)
set_option maxRecDepth 20000 in
theorem dL_law_1551 : decode cL_law 1551 = .ok (.iaload, 1) := dc_46 (b_L_law 1551 rfl)
set_option maxRecDepth 20000 in
theorem dL_law_1552 : decode cL_law 1552 = .ok (.invokevirtual 172, 3) := dc_182 (b_L_law 1553 rfl) (b_L_law 1554 rfl) rfl (b_L_law 1552 rfl)
set_option maxRecDepth 20000 in
theorem dL_law_1555 : decode cL_law 1555 = .ok (.aload_n 2, 1) := dc_44 (b_L_law 1555 rfl)
set_option maxRecDepth 20000 in
theorem dL_law_1556 : decode cL_law 1556 = .ok (.aload_n 0, 1) := dc_42 (b_L_law 1556 rfl)
set_option maxRecDepth 20000 in
theorem dL_law_1557 : decode cL_law 1557 = .ok (.iload 4, 2) := dc_21 (b_L_law 1558 rfl) (b_L_law 1557 rfl)
set_option maxRecDepth 20000 in
theorem dL_law_1559 : decode cL_law 1559 = .ok (.iconst 1, 1) := dc_4 (b_L_law 1559 rfl)
set_option maxRecDepth 20000 in
theorem dL_law_1560 : decode cL_law 1560 = .ok (.iadd, 1) := dc_96 (b_L_law 1560 rfl)
set_option maxRecDepth 20000 in
theorem dL_law_1561 : decode cL_law 1561 = .ok (.iaload, 1) := dc_46 (b_L_law 1561 rfl)
set_option maxRecDepth 20000 in
theorem dL_law_1562 : decode cL_law 1562 = .ok (.aload_n 0, 1) := dc_42 (b_L_law 1562 rfl)
set_option maxRecDepth 20000 in
theorem dL_law_1563 : decode cL_law 1563 = .ok (.iload 4, 2) := dc_21 (b_L_law 1564 rfl) (b_L_law 1563 rfl)
set_option maxRecDepth 20000 in
theorem dL_law_1565 : decode cL_law 1565 = .ok (.iconst 2, 1) := dc_5 (b_L_law 1565 rfl)
set_option maxRecDepth 20000 in
theorem dL_law_1566 : decode cL_law 1566 = .ok (.iadd, 1) := dc_96 (b_L_law 1566 rfl)
set_option maxRecDepth 20000 in
theorem dL_law_1567 : decode cL_law 1567 = .ok (.iaload, 1) := dc_46 (b_L_law 1567 rfl)
set_option maxRecDepth 20000 in
theorem dL_law_1568 : decode cL_law 1568 = .ok (.aload_n 0, 1) := dc_42 (b_L_law 1568 rfl)
set_option maxRecDepth 20000 in
theorem dL_law_1569 : decode cL_law 1569 = .ok (.iload 4, 2) := dc_21 (b_L_law 1570 rfl) (b_L_law 1569 rfl)
set_option maxRecDepth 20000 in
theorem dL_law_1571 : decode cL_law 1571 = .ok (.iconst 3, 1) := dc_6 (b_L_law 1571 rfl)
set_option maxRecDepth 20000 in
theorem dL_law_1572 : decode cL_law 1572 = .ok (.iadd, 1) := dc_96 (b_L_law 1572 rfl)
set_option maxRecDepth 20000 in
theorem dL_law_1573 : decode cL_law 1573 = .ok (.iaload, 1) := dc_46 (b_L_law 1573 rfl)
set_option maxRecDepth 20000 in
theorem dL_law_1574 : decode cL_law 1574 = .ok (.aload_n 0, 1) := dc_42 (b_L_law 1574 rfl)
set_option maxRecDepth 20000 in
theorem dL_law_1575 : decode cL_law 1575 = .ok (.iload 4, 2) := dc_21 (b_L_law 1576 rfl) (b_L_law 1575 rfl)
set_option maxRecDepth 20000 in
theorem dL_law_1577 : decode cL_law 1577 = .ok (.iconst 4, 1) := dc_7 (b_L_law 1577 rfl)
set_option maxRecDepth 20000 in
theorem dL_law_1578 : decode cL_law 1578 = .ok (.iadd, 1) := dc_96 (b_L_law 1578 rfl)
set_option maxRecDepth 20000 in
theorem dL_law_1579 : decode cL_law 1579 = .ok (.iaload, 1) := dc_46 (b_L_law 1579 rfl)
set_option maxRecDepth 20000 in
theorem dL_law_1580 : decode cL_law 1580 = .ok (.aload_n 0, 1) := dc_42 (b_L_law 1580 rfl)
set_option maxRecDepth 20000 in
theorem dL_law_1581 : decode cL_law 1581 = .ok (.iload 4, 2) := dc_21 (b_L_law 1582 rfl) (b_L_law 1581 rfl)
set_option maxRecDepth 20000 in
theorem dL_law_1583 : decode cL_law 1583 = .ok (.iconst 5, 1) := dc_8 (b_L_law 1583 rfl)
set_option maxRecDepth 20000 in
theorem dL_law_1584 : decode cL_law 1584 = .ok (.iadd, 1) := dc_96 (b_L_law 1584 rfl)
set_option maxRecDepth 20000 in
theorem dL_law_1585 : decode cL_law 1585 = .ok (.iaload, 1) := dc_46 (b_L_law 1585 rfl)
set_option maxRecDepth 20000 in
theorem dL_law_1586 : decode cL_law 1586 = .ok (.invokevirtual 175, 3) := dc_182 (b_L_law 1587 rfl) (b_L_law 1588 rfl) rfl (b_L_law 1586 rfl)
set_option maxRecDepth 20000 in
theorem dL_law_1589 : decode cL_law 1589 = .ok (.if_icmp .eq 55, 3) := dc_159 (b_L_law 1590 rfl) (b_L_law 1591 rfl) rfl (b_L_law 1589 rfl)
set_option maxRecDepth 20000 in
theorem dL_law_1592 : decode cL_law 1592 = .ok (.iconst 0, 1) := dc_3 (b_L_law 1592 rfl)
set_option maxRecDepth 20000 in
theorem dL_law_1593 : decode cL_law 1593 = .ok (.ireturn, 1) := dc_172 (b_L_law 1593 rfl)
set_option maxRecDepth 20000 in
theorem dL_law_1594 : decode cL_law 1594 = .ok (.aload_n 1, 1) := dc_43 (b_L_law 1594 rfl)
set_option maxRecDepth 20000 in
theorem dL_law_1595 : decode cL_law 1595 = .ok (.aload_n 0, 1) := dc_42 (b_L_law 1595 rfl)
set_option maxRecDepth 20000 in
theorem dL_law_1596 : decode cL_law 1596 = .ok (.iload 4, 2) := dc_21 (b_L_law 1597 rfl) (b_L_law 1596 rfl)
set_option maxRecDepth 20000 in
theorem dL_law_1598 : decode cL_law 1598 = .ok (.iconst 1, 1) := dc_4 (b_L_law 1598 rfl)
set_option maxRecDepth 20000 in
theorem dL_law_1599 : decode cL_law 1599 = .ok (.iadd, 1) := dc_96 (b_L_law 1599 rfl)
set_option maxRecDepth 20000 in
theorem dL_law_1600 : decode cL_law 1600 = .ok (.iaload, 1) := dc_46 (b_L_law 1600 rfl)
set_option maxRecDepth 20000 in
theorem dL_law_1601 : decode cL_law 1601 = .ok (.invokevirtual 176, 3) := dc_182 (b_L_law 1602 rfl) (b_L_law 1603 rfl) rfl (b_L_law 1601 rfl)
set_option maxRecDepth 20000 in
theorem dL_law_1604 : decode cL_law 1604 = .ok (.aload_n 2, 1) := dc_44 (b_L_law 1604 rfl)
set_option maxRecDepth 20000 in
theorem dL_law_1605 : decode cL_law 1605 = .ok (.aload_n 0, 1) := dc_42 (b_L_law 1605 rfl)
set_option maxRecDepth 20000 in
theorem dL_law_1606 : decode cL_law 1606 = .ok (.iload 4, 2) := dc_21 (b_L_law 1607 rfl) (b_L_law 1606 rfl)
set_option maxRecDepth 20000 in
theorem dL_law_1608 : decode cL_law 1608 = .ok (.iconst 1, 1) := dc_4 (b_L_law 1608 rfl)
set_option maxRecDepth 20000 in
theorem dL_law_1609 : decode cL_law 1609 = .ok (.iadd, 1) := dc_96 (b_L_law 1609 rfl)
set_option maxRecDepth 20000 in
theorem dL_law_1610 : decode cL_law 1610 = .ok (.iaload, 1) := dc_46 (b_L_law 1610 rfl)
set_option maxRecDepth 20000 in
theorem dL_law_1611 : decode cL_law 1611 = .ok (.invokevirtual 179, 3) := dc_182 (b_L_law 1612 rfl) (b_L_law 1613 rfl) rfl (b_L_law 1611 rfl)
set_option maxRecDepth 20000 in
theorem dL_law_1614 : decode cL_law 1614 = .ok (.if_icmp .eq 30, 3) := dc_159 (b_L_law 1615 rfl) (b_L_law 1616 rfl) rfl (b_L_law 1614 rfl)
set_option maxRecDepth 20000 in
theorem dL_law_1617 : decode cL_law 1617 = .ok (.iconst 0, 1) := dc_3 (b_L_law 1617 rfl)
set_option maxRecDepth 20000 in
theorem dL_law_1618 : decode cL_law 1618 = .ok (.ireturn, 1) := dc_172 (b_L_law 1618 rfl)
set_option maxRecDepth 20000 in
theorem dL_law_1619 : decode cL_law 1619 = .ok (.aload_n 1, 1) := dc_43 (b_L_law 1619 rfl)
set_option maxRecDepth 20000 in
theorem dL_law_1620 : decode cL_law 1620 = .ok (.aload_n 0, 1) := dc_42 (b_L_law 1620 rfl)
set_option maxRecDepth 20000 in
theorem dL_law_1621 : decode cL_law 1621 = .ok (.iload 4, 2) := dc_21 (b_L_law 1622 rfl) (b_L_law 1621 rfl)
set_option maxRecDepth 20000 in
theorem dL_law_1623 : decode cL_law 1623 = .ok (.iconst 1, 1) := dc_4 (b_L_law 1623 rfl)
set_option maxRecDepth 20000 in
theorem dL_law_1624 : decode cL_law 1624 = .ok (.iadd, 1) := dc_96 (b_L_law 1624 rfl)
set_option maxRecDepth 20000 in
theorem dL_law_1625 : decode cL_law 1625 = .ok (.iaload, 1) := dc_46 (b_L_law 1625 rfl)
set_option maxRecDepth 20000 in
theorem dL_law_1626 : decode cL_law 1626 = .ok (.invokevirtual 180, 3) := dc_182 (b_L_law 1627 rfl) (b_L_law 1628 rfl) rfl (b_L_law 1626 rfl)
set_option maxRecDepth 20000 in
theorem dL_law_1629 : decode cL_law 1629 = .ok (.aload_n 2, 1) := dc_44 (b_L_law 1629 rfl)
set_option maxRecDepth 20000 in
theorem dL_law_1630 : decode cL_law 1630 = .ok (.aload_n 0, 1) := dc_42 (b_L_law 1630 rfl)
set_option maxRecDepth 20000 in
theorem dL_law_1631 : decode cL_law 1631 = .ok (.iload 4, 2) := dc_21 (b_L_law 1632 rfl) (b_L_law 1631 rfl)
set_option maxRecDepth 20000 in
theorem dL_law_1633 : decode cL_law 1633 = .ok (.iconst 1, 1) := dc_4 (b_L_law 1633 rfl)
set_option maxRecDepth 20000 in
theorem dL_law_1634 : decode cL_law 1634 = .ok (.iadd, 1) := dc_96 (b_L_law 1634 rfl)
set_option maxRecDepth 20000 in
theorem dL_law_1635 : decode cL_law 1635 = .ok (.iaload, 1) := dc_46 (b_L_law 1635 rfl)
set_option maxRecDepth 20000 in
theorem dL_law_1636 : decode cL_law 1636 = .ok (.invokevirtual 183, 3) := dc_182 (b_L_law 1637 rfl) (b_L_law 1638 rfl) rfl (b_L_law 1636 rfl)
set_option maxRecDepth 20000 in
theorem dL_law_1639 : decode cL_law 1639 = .ok (.if_icmp .eq 5, 3) := dc_159 (b_L_law 1640 rfl) (b_L_law 1641 rfl) rfl (b_L_law 1639 rfl)
set_option maxRecDepth 20000 in
theorem dL_law_1642 : decode cL_law 1642 = .ok (.iconst 0, 1) := dc_3 (b_L_law 1642 rfl)
set_option maxRecDepth 20000 in
theorem dL_law_1643 : decode cL_law 1643 = .ok (.ireturn, 1) := dc_172 (b_L_law 1643 rfl)
set_option maxRecDepth 20000 in
theorem dL_law_1644 : decode cL_law 1644 = .ok (.iinc 4 6, 3) := dc_132 (b_L_law 1645 rfl) (b_L_law 1646 rfl) rfl (b_L_law 1644 rfl)
set_option maxRecDepth 20000 in
theorem dL_law_1647 : decode cL_law 1647 = .ok (.goto (-1624), 3) := dc_167 (b_L_law 1648 rfl) (b_L_law 1649 rfl) rfl (b_L_law 1647 rfl)
set_option maxRecDepth 20000 in
theorem dL_law_1650 : decode cL_law 1650 = .ok (.iconst 1, 1) := dc_4 (b_L_law 1650 rfl)
set_option maxRecDepth 20000 in
theorem dL_law_1651 : decode cL_law 1651 = .ok (.ireturn, 1) := dc_172 (b_L_law 1651 rfl)
