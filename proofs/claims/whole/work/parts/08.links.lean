/-! links: which field, which method an entry of a class means (the tables say so) -/
theorem zi {w : Cond} (i : Nat) (h : lw_tbl[i]? = some w) (g : goodWord w = true) : w ∈ zW := zW_in (List.mem_of_getElem? h) g
theorem zis {ws : List Cond} (ps : List Nat) (hp : ws = ps.filterMap (fun i => lw_tbl[i]?)) (h : ws.all goodWord = true) : ∀ w ∈ ws, w ∈ zW := by
  intro w hw
  have h1 := List.all_eq_true.mp h w hw
  rw [hp] at hw
  obtain ⟨i, -, hi⟩ := List.mem_filterMap.mp hw
  exact zi i hi h1
theorem in_X0 : ∀ w ∈ u_ws RX0 TX0 11, w ∈ zW := zis [215, 217, 219, 221, 223, 225, 227, 229, 231, 233, 235] (by decide +kernel) (by decide +kernel)
theorem in_X1 : ∀ w ∈ u_ws RX1 TX1 5, w ∈ zW := zis [469, 471, 473, 475, 477] (by decide +kernel) (by decide +kernel)
theorem in_X2 : ∀ w ∈ u_ws RX2 TX2 6, w ∈ zW := zis [185, 187, 189, 191, 193, 195] (by decide +kernel) (by decide +kernel)
theorem in_X3 : ∀ w ∈ u_ws RX3 TX3 1, w ∈ zW := zis [380] (by decide +kernel) (by decide +kernel)
theorem in_X4 : ∀ w ∈ u_ws RX4 TX4 7, w ∈ zW := zis [112, 114, 116, 118, 120, 122, 124] (by decide +kernel) (by decide +kernel)
theorem in_X5 : ∀ w ∈ u_ws RX5 TX5 4, w ∈ zW := zis [137, 139, 141, 143] (by decide +kernel) (by decide +kernel)
theorem in_X6 : ∀ w ∈ u_ws RX6 TX6 2, w ∈ zW := zis [89, 91] (by decide +kernel) (by decide +kernel)
theorem in_X7 : ∀ w ∈ u_ws RX7 TX7 9, w ∈ zW := zis [247, 249, 251, 253, 255, 257, 259, 261, 263] (by decide +kernel) (by decide +kernel)
theorem in_X8 : ∀ w ∈ u_ws RX8 TX8 44, w ∈ zW := zis [857, 859, 861, 863, 865, 867, 869, 871, 873, 875, 877, 879, 881, 883, 885, 887, 889, 891, 893, 895, 897, 899, 901, 903, 905, 907, 909, 911, 913, 915, 917, 919, 921, 923, 925, 927, 929, 931, 933, 935, 937, 939, 941, 943] (by decide +kernel) (by decide +kernel)
theorem ini_X0 : Cond.initialized RX0 ∈ zW := zi 57 (by decide +kernel) rfl
theorem ini_X1 : Cond.initialized RX1 ∈ zW := zi 65 (by decide +kernel) rfl
theorem ini_X2 : Cond.initialized RX2 ∈ zW := zi 59 (by decide +kernel) rfl
theorem ini_X3 : Cond.initialized RX3 ∈ zW := zi 62 (by decide +kernel) rfl
theorem ini_X4 : Cond.initialized RX4 ∈ zW := zi 55 (by decide +kernel) rfl
theorem ini_X5 : Cond.initialized RX5 ∈ zW := zi 56 (by decide +kernel) rfl
theorem ini_X6 : Cond.initialized RX6 ∈ zW := zi 54 (by decide +kernel) rfl
theorem ini_X7 : Cond.initialized RX7 ∈ zW := zi 53 (by decide +kernel) rfl
theorem ini_X8 : Cond.initialized RX8 ∈ zW := zi 60 (by decide +kernel) rfl
theorem fl_X6_9 : zFL RX6 9 6 0 (.array .int) true := ⟨_, _, _, tyX6, rfl, by decide, in_X6, zi 85 (by decide +kernel) rfl, tyX6_ok, nmX6, rfl, rfl, rfl⟩
theorem fl_X6_15 : zFL RX6 15 6 1 (.int) false := ⟨_, _, _, tyX6, rfl, by decide, in_X6, zi 86 (by decide +kernel) rfl, tyX6_ok, nmX6, rfl, rfl, rfl⟩
theorem fl_X4_42 : zFL RX4 42 6 1 (.int) false := ⟨_, _, _, tyX6, rfl, by decide, in_X6, zi 87 (by decide +kernel) rfl, tyX6_ok, nmX6, rfl, rfl, rfl⟩
theorem fl_X7_76 : zFL RX7 76 6 1 (.int) false := ⟨_, _, _, tyX6, rfl, by decide, in_X6, zi 88 (by decide +kernel) rfl, tyX6_ok, nmX6, rfl, rfl, rfl⟩
theorem fl_X4_32 : zFL RX4 32 4 0 (.int) false := ⟨_, _, _, tyX4, rfl, by decide, in_X4, zi 103 (by decide +kernel) rfl, tyX4_ok, nmX4, rfl, rfl, rfl⟩
theorem fl_X7_102 : zFL RX7 102 4 0 (.int) false := ⟨_, _, _, tyX4, rfl, by decide, in_X4, zi 104 (by decide +kernel) rfl, tyX4_ok, nmX4, rfl, rfl, rfl⟩
theorem fl_X4_35 : zFL RX4 35 4 1 (.int) false := ⟨_, _, _, tyX4, rfl, by decide, in_X4, zi 105 (by decide +kernel) rfl, tyX4_ok, nmX4, rfl, rfl, rfl⟩
theorem fl_X7_105 : zFL RX7 105 4 1 (.int) false := ⟨_, _, _, tyX4, rfl, by decide, in_X4, zi 106 (by decide +kernel) rfl, tyX4_ok, nmX4, rfl, rfl, rfl⟩
theorem fl_X4_9 : zFL RX4 9 4 2 (.object "PoolsHall$Tape") true := ⟨_, _, _, tyX4, rfl, by decide, in_X4, zi 107 (by decide +kernel) rfl, tyX4_ok, nmX4, rfl, rfl, rfl⟩
theorem fl_X4_17 : zFL RX4 17 4 3 (.array (.object "PoolsHall$LineSet")) true := ⟨_, _, _, tyX4, rfl, by decide, in_X4, zi 108 (by decide +kernel) rfl, tyX4_ok, nmX4, rfl, rfl, rfl⟩
theorem fl_X4_21 : zFL RX4 21 4 4 (.object "PoolsHall$LineSet") false := ⟨_, _, _, tyX4, rfl, by decide, in_X4, zi 109 (by decide +kernel) rfl, tyX4_ok, nmX4, rfl, rfl, rfl⟩
theorem fl_X4_25 : zFL RX4 25 4 5 (.int) false := ⟨_, _, _, tyX4, rfl, by decide, in_X4, zi 110 (by decide +kernel) rfl, tyX4_ok, nmX4, rfl, rfl, rfl⟩
theorem fl_X4_29 : zFL RX4 29 4 6 (.int) false := ⟨_, _, _, tyX4, rfl, by decide, in_X4, zi 111 (by decide +kernel) rfl, tyX4_ok, nmX4, rfl, rfl, rfl⟩
theorem fl_X5_11 : zFL RX5 11 5 0 (.array .int) true := ⟨_, _, _, tyX5, rfl, by decide, in_X5, zi 133 (by decide +kernel) rfl, tyX5_ok, nmX5, rfl, rfl, rfl⟩
theorem fl_X5_17 : zFL RX5 17 5 1 (.array .int) true := ⟨_, _, _, tyX5, rfl, by decide, in_X5, zi 134 (by decide +kernel) rfl, tyX5_ok, nmX5, rfl, rfl, rfl⟩
theorem fl_X5_20 : zFL RX5 20 5 2 (.array .int) true := ⟨_, _, _, tyX5, rfl, by decide, in_X5, zi 135 (by decide +kernel) rfl, tyX5_ok, nmX5, rfl, rfl, rfl⟩
theorem fl_X5_23 : zFL RX5 23 5 3 (.array .long) true := ⟨_, _, _, tyX5, rfl, by decide, in_X5, zi 136 (by decide +kernel) rfl, tyX5_ok, nmX5, rfl, rfl, rfl⟩
theorem fl_X2_13 : zFL RX2 13 2 0 (.int) false := ⟨_, _, _, tyX2, rfl, by decide, in_X2, zi 169 (by decide +kernel) rfl, tyX2_ok, nmX2, rfl, rfl, rfl⟩
theorem fl_X0_75 : zFL RX0 75 2 0 (.int) false := ⟨_, _, _, tyX2, rfl, by decide, in_X2, zi 170 (by decide +kernel) rfl, tyX2_ok, nmX2, rfl, rfl, rfl⟩
theorem fl_X7_224 : zFL RX7 224 2 0 (.int) false := ⟨_, _, _, tyX2, rfl, by decide, in_X2, zi 171 (by decide +kernel) rfl, tyX2_ok, nmX2, rfl, rfl, rfl⟩
theorem fl_X2_17 : zFL RX2 17 2 1 (.int) false := ⟨_, _, _, tyX2, rfl, by decide, in_X2, zi 172 (by decide +kernel) rfl, tyX2_ok, nmX2, rfl, rfl, rfl⟩
theorem fl_X0_86 : zFL RX0 86 2 1 (.int) false := ⟨_, _, _, tyX2, rfl, by decide, in_X2, zi 173 (by decide +kernel) rfl, tyX2_ok, nmX2, rfl, rfl, rfl⟩
theorem fl_X7_229 : zFL RX7 229 2 1 (.int) false := ⟨_, _, _, tyX2, rfl, by decide, in_X2, zi 174 (by decide +kernel) rfl, tyX2_ok, nmX2, rfl, rfl, rfl⟩
theorem fl_X2_20 : zFL RX2 20 2 2 (.int) false := ⟨_, _, _, tyX2, rfl, by decide, in_X2, zi 175 (by decide +kernel) rfl, tyX2_ok, nmX2, rfl, rfl, rfl⟩
theorem fl_X7_232 : zFL RX7 232 2 2 (.int) false := ⟨_, _, _, tyX2, rfl, by decide, in_X2, zi 176 (by decide +kernel) rfl, tyX2_ok, nmX2, rfl, rfl, rfl⟩
theorem fl_X2_23 : zFL RX2 23 2 3 (.long) false := ⟨_, _, _, tyX2, rfl, by decide, in_X2, zi 177 (by decide +kernel) rfl, tyX2_ok, nmX2, rfl, rfl, rfl⟩
theorem fl_X0_93 : zFL RX0 93 2 3 (.long) false := ⟨_, _, _, tyX2, rfl, by decide, in_X2, zi 178 (by decide +kernel) rfl, tyX2_ok, nmX2, rfl, rfl, rfl⟩
theorem fl_X7_235 : zFL RX7 235 2 3 (.long) false := ⟨_, _, _, tyX2, rfl, by decide, in_X2, zi 179 (by decide +kernel) rfl, tyX2_ok, nmX2, rfl, rfl, rfl⟩
theorem fl_X2_27 : zFL RX2 27 2 4 (.long) false := ⟨_, _, _, tyX2, rfl, by decide, in_X2, zi 180 (by decide +kernel) rfl, tyX2_ok, nmX2, rfl, rfl, rfl⟩
theorem fl_X7_238 : zFL RX7 238 2 4 (.long) false := ⟨_, _, _, tyX2, rfl, by decide, in_X2, zi 181 (by decide +kernel) rfl, tyX2_ok, nmX2, rfl, rfl, rfl⟩
theorem fl_X2_30 : zFL RX2 30 2 5 (.long) false := ⟨_, _, _, tyX2, rfl, by decide, in_X2, zi 182 (by decide +kernel) rfl, tyX2_ok, nmX2, rfl, rfl, rfl⟩
theorem fl_X0_133 : zFL RX0 133 2 5 (.long) false := ⟨_, _, _, tyX2, rfl, by decide, in_X2, zi 183 (by decide +kernel) rfl, tyX2_ok, nmX2, rfl, rfl, rfl⟩
theorem fl_X7_241 : zFL RX7 241 2 5 (.long) false := ⟨_, _, _, tyX2, rfl, by decide, in_X2, zi 184 (by decide +kernel) rfl, tyX2_ok, nmX2, rfl, rfl, rfl⟩
theorem fl_X0_41 : zFL RX0 41 0 0 (.int) false := ⟨_, _, _, tyX0, rfl, by decide, in_X0, zi 198 (by decide +kernel) rfl, tyX0_ok, nmX0, rfl, rfl, rfl⟩
theorem fl_X7_200 : zFL RX7 200 0 0 (.int) false := ⟨_, _, _, tyX0, rfl, by decide, in_X0, zi 199 (by decide +kernel) rfl, tyX0_ok, nmX0, rfl, rfl, rfl⟩
theorem fl_X0_45 : zFL RX0 45 0 1 (.long) false := ⟨_, _, _, tyX0, rfl, by decide, in_X0, zi 200 (by decide +kernel) rfl, tyX0_ok, nmX0, rfl, rfl, rfl⟩
theorem fl_X7_210 : zFL RX7 210 0 1 (.long) false := ⟨_, _, _, tyX0, rfl, by decide, in_X0, zi 201 (by decide +kernel) rfl, tyX0_ok, nmX0, rfl, rfl, rfl⟩
theorem fl_X0_49 : zFL RX0 49 0 2 (.long) false := ⟨_, _, _, tyX0, rfl, by decide, in_X0, zi 202 (by decide +kernel) rfl, tyX0_ok, nmX0, rfl, rfl, rfl⟩
theorem fl_X7_214 : zFL RX7 214 0 2 (.long) false := ⟨_, _, _, tyX0, rfl, by decide, in_X0, zi 203 (by decide +kernel) rfl, tyX0_ok, nmX0, rfl, rfl, rfl⟩
theorem fl_X0_9 : zFL RX0 9 0 3 (.array .int) true := ⟨_, _, _, tyX0, rfl, by decide, in_X0, zi 204 (by decide +kernel) rfl, tyX0_ok, nmX0, rfl, rfl, rfl⟩
theorem fl_X7_61 : zFL RX7 61 0 3 (.array .int) true := ⟨_, _, _, tyX0, rfl, by decide, in_X0, zi 205 (by decide +kernel) rfl, tyX0_ok, nmX0, rfl, rfl, rfl⟩
theorem fl_X0_23 : zFL RX0 23 0 4 (.array (.object "PoolsHall$Coupon")) true := ⟨_, _, _, tyX0, rfl, by decide, in_X0, zi 206 (by decide +kernel) rfl, tyX0_ok, nmX0, rfl, rfl, rfl⟩
theorem fl_X0_52 : zFL RX0 52 0 5 (.int) false := ⟨_, _, _, tyX0, rfl, by decide, in_X0, zi 207 (by decide +kernel) rfl, tyX0_ok, nmX0, rfl, rfl, rfl⟩
theorem fl_X7_86 : zFL RX7 86 0 5 (.int) false := ⟨_, _, _, tyX0, rfl, by decide, in_X0, zi 208 (by decide +kernel) rfl, tyX0_ok, nmX0, rfl, rfl, rfl⟩
theorem fl_X0_29 : zFL RX0 29 0 6 (.array (.object "PoolsHall$Dividend")) true := ⟨_, _, _, tyX0, rfl, by decide, in_X0, zi 209 (by decide +kernel) rfl, tyX0_ok, nmX0, rfl, rfl, rfl⟩
theorem fl_X0_55 : zFL RX0 55 0 7 (.int) false := ⟨_, _, _, tyX0, rfl, by decide, in_X0, zi 210 (by decide +kernel) rfl, tyX0_ok, nmX0, rfl, rfl, rfl⟩
theorem fl_X7_203 : zFL RX7 203 0 7 (.int) false := ⟨_, _, _, tyX0, rfl, by decide, in_X0, zi 211 (by decide +kernel) rfl, tyX0_ok, nmX0, rfl, rfl, rfl⟩
theorem fl_X0_34 : zFL RX0 34 0 8 (.array .long) true := ⟨_, _, _, tyX0, rfl, by decide, in_X0, zi 212 (by decide +kernel) rfl, tyX0_ok, nmX0, rfl, rfl, rfl⟩
theorem fl_X0_38 : zFL RX0 38 0 9 (.array .int) true := ⟨_, _, _, tyX0, rfl, by decide, in_X0, zi 213 (by decide +kernel) rfl, tyX0_ok, nmX0, rfl, rfl, rfl⟩
theorem fl_X0_58 : zFL RX0 58 0 10 (.int) false := ⟨_, _, _, tyX0, rfl, by decide, in_X0, zi 214 (by decide +kernel) rfl, tyX0_ok, nmX0, rfl, rfl, rfl⟩
theorem fl_X7_10 : zFL RX7 10 7 0 (.object "PoolsHall$Tape") true := ⟨_, _, _, tyX7, rfl, by decide, in_X7, zi 238 (by decide +kernel) rfl, tyX7_ok, nmX7, rfl, rfl, rfl⟩
theorem fl_X7_21 : zFL RX7 21 7 1 (.object "PoolsHall$PlanReader") true := ⟨_, _, _, tyX7, rfl, by decide, in_X7, zi 239 (by decide +kernel) rfl, tyX7_ok, nmX7, rfl, rfl, rfl⟩
theorem fl_X7_28 : zFL RX7 28 7 2 (.object "PoolsHall$Scale") true := ⟨_, _, _, tyX7, rfl, by decide, in_X7, zi 240 (by decide +kernel) rfl, tyX7_ok, nmX7, rfl, rfl, rfl⟩
theorem fl_X7_35 : zFL RX7 35 7 3 (.object "PoolsHall$Books") true := ⟨_, _, _, tyX7, rfl, by decide, in_X7, zi 241 (by decide +kernel) rfl, tyX7_ok, nmX7, rfl, rfl, rfl⟩
theorem fl_X7_39 : zFL RX7 39 7 4 (.object "PoolsHall$Books") true := ⟨_, _, _, tyX7, rfl, by decide, in_X7, zi 242 (by decide +kernel) rfl, tyX7_ok, nmX7, rfl, rfl, rfl⟩
theorem fl_X7_42 : zFL RX7 42 7 5 (.array .int) true := ⟨_, _, _, tyX7, rfl, by decide, in_X7, zi 243 (by decide +kernel) rfl, tyX7_ok, nmX7, rfl, rfl, rfl⟩
theorem fl_X7_46 : zFL RX7 46 7 6 (.boolean) false := ⟨_, _, _, tyX7, rfl, by decide, in_X7, zi 244 (by decide +kernel) rfl, tyX7_ok, nmX7, rfl, rfl, rfl⟩
theorem fl_X7_50 : zFL RX7 50 7 7 (.int) false := ⟨_, _, _, tyX7, rfl, by decide, in_X7, zi 245 (by decide +kernel) rfl, tyX7_ok, nmX7, rfl, rfl, rfl⟩
theorem fl_X7_54 : zFL RX7 54 7 8 (.int) false := ⟨_, _, _, tyX7, rfl, by decide, in_X7, zi 246 (by decide +kernel) rfl, tyX7_ok, nmX7, rfl, rfl, rfl⟩
theorem fl_X3_11 : zFL RX3 11 3 0 (.array .long) true := ⟨_, _, _, tyX3, rfl, by decide, in_X3, zi 378 (by decide +kernel) rfl, tyX3_ok, nmX3, rfl, rfl, rfl⟩
theorem fl_X5_50 : zFL RX5 50 3 0 (.array .long) true := ⟨_, _, _, tyX3, rfl, by decide, in_X3, zi 379 (by decide +kernel) rfl, tyX3_ok, nmX3, rfl, rfl, rfl⟩
theorem sl_X3_55 : Cond.fieldLink RX3 55 RX3 "WITH_MATCH" "[J" ∈ zW := zi 436 (by decide +kernel) rfl
theorem fl_X1_7 : zFL RX1 7 1 0 (.object "PoolsHall$LineSet") true := ⟨_, _, _, tyX1, rfl, by decide, in_X1, zi 455 (by decide +kernel) rfl, tyX1_ok, nmX1, rfl, rfl, rfl⟩
theorem fl_X7_135 : zFL RX7 135 1 0 (.object "PoolsHall$LineSet") true := ⟨_, _, _, tyX1, rfl, by decide, in_X1, zi 456 (by decide +kernel) rfl, tyX1_ok, nmX1, rfl, rfl, rfl⟩
theorem fl_X0_136 : zFL RX0 136 1 0 (.object "PoolsHall$LineSet") true := ⟨_, _, _, tyX1, rfl, by decide, in_X1, zi 457 (by decide +kernel) rfl, tyX1_ok, nmX1, rfl, rfl, rfl⟩
theorem fl_X1_19 : zFL RX1 19 1 1 (.int) true := ⟨_, _, _, tyX1, rfl, by decide, in_X1, zi 458 (by decide +kernel) rfl, tyX1_ok, nmX1, rfl, rfl, rfl⟩
theorem fl_X7_122 : zFL RX7 122 1 1 (.int) true := ⟨_, _, _, tyX1, rfl, by decide, in_X1, zi 459 (by decide +kernel) rfl, tyX1_ok, nmX1, rfl, rfl, rfl⟩
theorem fl_X1_23 : zFL RX1 23 1 2 (.int) true := ⟨_, _, _, tyX1, rfl, by decide, in_X1, zi 460 (by decide +kernel) rfl, tyX1_ok, nmX1, rfl, rfl, rfl⟩
theorem fl_X7_129 : zFL RX7 129 1 2 (.int) true := ⟨_, _, _, tyX1, rfl, by decide, in_X1, zi 461 (by decide +kernel) rfl, tyX1_ok, nmX1, rfl, rfl, rfl⟩
theorem fl_X0_146 : zFL RX0 146 1 2 (.int) true := ⟨_, _, _, tyX1, rfl, by decide, in_X1, zi 462 (by decide +kernel) rfl, tyX1_ok, nmX1, rfl, rfl, rfl⟩
theorem fl_X1_26 : zFL RX1 26 1 3 (.int) true := ⟨_, _, _, tyX1, rfl, by decide, in_X1, zi 463 (by decide +kernel) rfl, tyX1_ok, nmX1, rfl, rfl, rfl⟩
theorem fl_X7_132 : zFL RX7 132 1 3 (.int) true := ⟨_, _, _, tyX1, rfl, by decide, in_X1, zi 464 (by decide +kernel) rfl, tyX1_ok, nmX1, rfl, rfl, rfl⟩
theorem fl_X0_122 : zFL RX0 122 1 3 (.int) true := ⟨_, _, _, tyX1, rfl, by decide, in_X1, zi 465 (by decide +kernel) rfl, tyX1_ok, nmX1, rfl, rfl, rfl⟩
theorem fl_X1_29 : zFL RX1 29 1 4 (.boolean) false := ⟨_, _, _, tyX1, rfl, by decide, in_X1, zi 466 (by decide +kernel) rfl, tyX1_ok, nmX1, rfl, rfl, rfl⟩
theorem fl_X7_112 : zFL RX7 112 1 4 (.boolean) false := ⟨_, _, _, tyX1, rfl, by decide, in_X1, zi 467 (by decide +kernel) rfl, tyX1_ok, nmX1, rfl, rfl, rfl⟩
theorem fl_X0_100 : zFL RX0 100 1 4 (.boolean) false := ⟨_, _, _, tyX1, rfl, by decide, in_X1, zi 468 (by decide +kernel) rfl, tyX1_ok, nmX1, rfl, rfl, rfl⟩
theorem fl_X8_9 : zFL RX8 9 8 0 (.array .int) true := ⟨_, _, _, tyX8, rfl, by decide, in_X8, zi 813 (by decide +kernel) rfl, tyX8_ok, nmX8, rfl, rfl, rfl⟩
theorem fl_X8_13 : zFL RX8 13 8 1 (.array .int) true := ⟨_, _, _, tyX8, rfl, by decide, in_X8, zi 814 (by decide +kernel) rfl, tyX8_ok, nmX8, rfl, rfl, rfl⟩
theorem fl_X8_16 : zFL RX8 16 8 2 (.array .int) true := ⟨_, _, _, tyX8, rfl, by decide, in_X8, zi 815 (by decide +kernel) rfl, tyX8_ok, nmX8, rfl, rfl, rfl⟩
theorem fl_X8_19 : zFL RX8 19 8 3 (.array .int) true := ⟨_, _, _, tyX8, rfl, by decide, in_X8, zi 816 (by decide +kernel) rfl, tyX8_ok, nmX8, rfl, rfl, rfl⟩
theorem fl_X8_110 : zFL RX8 110 8 4 (.int) false := ⟨_, _, _, tyX8, rfl, by decide, in_X8, zi 817 (by decide +kernel) rfl, tyX8_ok, nmX8, rfl, rfl, rfl⟩
theorem fl_X8_127 : zFL RX8 127 8 5 (.int) false := ⟨_, _, _, tyX8, rfl, by decide, in_X8, zi 818 (by decide +kernel) rfl, tyX8_ok, nmX8, rfl, rfl, rfl⟩
theorem fl_X8_130 : zFL RX8 130 8 6 (.int) false := ⟨_, _, _, tyX8, rfl, by decide, in_X8, zi 819 (by decide +kernel) rfl, tyX8_ok, nmX8, rfl, rfl, rfl⟩
theorem fl_X8_22 : zFL RX8 22 8 7 (.array .int) true := ⟨_, _, _, tyX8, rfl, by decide, in_X8, zi 820 (by decide +kernel) rfl, tyX8_ok, nmX8, rfl, rfl, rfl⟩
theorem fl_X8_25 : zFL RX8 25 8 8 (.array .int) true := ⟨_, _, _, tyX8, rfl, by decide, in_X8, zi 821 (by decide +kernel) rfl, tyX8_ok, nmX8, rfl, rfl, rfl⟩
theorem fl_X8_28 : zFL RX8 28 8 9 (.array .int) true := ⟨_, _, _, tyX8, rfl, by decide, in_X8, zi 822 (by decide +kernel) rfl, tyX8_ok, nmX8, rfl, rfl, rfl⟩
theorem fl_X8_31 : zFL RX8 31 8 10 (.array .boolean) true := ⟨_, _, _, tyX8, rfl, by decide, in_X8, zi 823 (by decide +kernel) rfl, tyX8_ok, nmX8, rfl, rfl, rfl⟩
theorem fl_X8_177 : zFL RX8 177 8 11 (.int) false := ⟨_, _, _, tyX8, rfl, by decide, in_X8, zi 824 (by decide +kernel) rfl, tyX8_ok, nmX8, rfl, rfl, rfl⟩
theorem fl_X8_35 : zFL RX8 35 8 12 (.int) false := ⟨_, _, _, tyX8, rfl, by decide, in_X8, zi 825 (by decide +kernel) rfl, tyX8_ok, nmX8, rfl, rfl, rfl⟩
theorem fl_X8_39 : zFL RX8 39 8 13 (.int) false := ⟨_, _, _, tyX8, rfl, by decide, in_X8, zi 826 (by decide +kernel) rfl, tyX8_ok, nmX8, rfl, rfl, rfl⟩
theorem fl_X8_42 : zFL RX8 42 8 14 (.array .long) true := ⟨_, _, _, tyX8, rfl, by decide, in_X8, zi 827 (by decide +kernel) rfl, tyX8_ok, nmX8, rfl, rfl, rfl⟩
theorem fl_X8_212 : zFL RX8 212 8 15 (.int) false := ⟨_, _, _, tyX8, rfl, by decide, in_X8, zi 828 (by decide +kernel) rfl, tyX8_ok, nmX8, rfl, rfl, rfl⟩
theorem fl_X8_265 : zFL RX8 265 8 16 (.int) false := ⟨_, _, _, tyX8, rfl, by decide, in_X8, zi 829 (by decide +kernel) rfl, tyX8_ok, nmX8, rfl, rfl, rfl⟩
theorem fl_X8_219 : zFL RX8 219 8 17 (.long) false := ⟨_, _, _, tyX8, rfl, by decide, in_X8, zi 830 (by decide +kernel) rfl, tyX8_ok, nmX8, rfl, rfl, rfl⟩
theorem fl_X8_243 : zFL RX8 243 8 18 (.long) false := ⟨_, _, _, tyX8, rfl, by decide, in_X8, zi 831 (by decide +kernel) rfl, tyX8_ok, nmX8, rfl, rfl, rfl⟩
theorem fl_X8_46 : zFL RX8 46 8 19 (.array .long) true := ⟨_, _, _, tyX8, rfl, by decide, in_X8, zi 832 (by decide +kernel) rfl, tyX8_ok, nmX8, rfl, rfl, rfl⟩
theorem fl_X8_49 : zFL RX8 49 8 20 (.array .int) true := ⟨_, _, _, tyX8, rfl, by decide, in_X8, zi 833 (by decide +kernel) rfl, tyX8_ok, nmX8, rfl, rfl, rfl⟩
theorem fl_X8_249 : zFL RX8 249 8 21 (.int) false := ⟨_, _, _, tyX8, rfl, by decide, in_X8, zi 834 (by decide +kernel) rfl, tyX8_ok, nmX8, rfl, rfl, rfl⟩
theorem fl_X8_255 : zFL RX8 255 8 22 (.boolean) false := ⟨_, _, _, tyX8, rfl, by decide, in_X8, zi 835 (by decide +kernel) rfl, tyX8_ok, nmX8, rfl, rfl, rfl⟩
theorem fl_X8_52 : zFL RX8 52 8 23 (.array .int) true := ⟨_, _, _, tyX8, rfl, by decide, in_X8, zi 836 (by decide +kernel) rfl, tyX8_ok, nmX8, rfl, rfl, rfl⟩
theorem fl_X8_55 : zFL RX8 55 8 24 (.array .int) true := ⟨_, _, _, tyX8, rfl, by decide, in_X8, zi 837 (by decide +kernel) rfl, tyX8_ok, nmX8, rfl, rfl, rfl⟩
theorem fl_X8_58 : zFL RX8 58 8 25 (.array .int) true := ⟨_, _, _, tyX8, rfl, by decide, in_X8, zi 838 (by decide +kernel) rfl, tyX8_ok, nmX8, rfl, rfl, rfl⟩
theorem fl_X8_61 : zFL RX8 61 8 26 (.array .int) true := ⟨_, _, _, tyX8, rfl, by decide, in_X8, zi 839 (by decide +kernel) rfl, tyX8_ok, nmX8, rfl, rfl, rfl⟩
theorem fl_X8_64 : zFL RX8 64 8 27 (.array .int) true := ⟨_, _, _, tyX8, rfl, by decide, in_X8, zi 840 (by decide +kernel) rfl, tyX8_ok, nmX8, rfl, rfl, rfl⟩
theorem fl_X8_67 : zFL RX8 67 8 28 (.array .boolean) true := ⟨_, _, _, tyX8, rfl, by decide, in_X8, zi 841 (by decide +kernel) rfl, tyX8_ok, nmX8, rfl, rfl, rfl⟩
theorem fl_X8_231 : zFL RX8 231 8 29 (.int) false := ⟨_, _, _, tyX8, rfl, by decide, in_X8, zi 842 (by decide +kernel) rfl, tyX8_ok, nmX8, rfl, rfl, rfl⟩
theorem fl_X8_70 : zFL RX8 70 8 30 (.array .long) true := ⟨_, _, _, tyX8, rfl, by decide, in_X8, zi 843 (by decide +kernel) rfl, tyX8_ok, nmX8, rfl, rfl, rfl⟩
theorem fl_X8_237 : zFL RX8 237 8 31 (.int) false := ⟨_, _, _, tyX8, rfl, by decide, in_X8, zi 844 (by decide +kernel) rfl, tyX8_ok, nmX8, rfl, rfl, rfl⟩
theorem fl_X8_240 : zFL RX8 240 8 32 (.long) false := ⟨_, _, _, tyX8, rfl, by decide, in_X8, zi 845 (by decide +kernel) rfl, tyX8_ok, nmX8, rfl, rfl, rfl⟩
theorem fl_X8_246 : zFL RX8 246 8 33 (.long) false := ⟨_, _, _, tyX8, rfl, by decide, in_X8, zi 846 (by decide +kernel) rfl, tyX8_ok, nmX8, rfl, rfl, rfl⟩
theorem fl_X8_73 : zFL RX8 73 8 34 (.array .long) true := ⟨_, _, _, tyX8, rfl, by decide, in_X8, zi 847 (by decide +kernel) rfl, tyX8_ok, nmX8, rfl, rfl, rfl⟩
theorem fl_X8_76 : zFL RX8 76 8 35 (.array .int) true := ⟨_, _, _, tyX8, rfl, by decide, in_X8, zi 848 (by decide +kernel) rfl, tyX8_ok, nmX8, rfl, rfl, rfl⟩
theorem fl_X8_252 : zFL RX8 252 8 36 (.int) false := ⟨_, _, _, tyX8, rfl, by decide, in_X8, zi 849 (by decide +kernel) rfl, tyX8_ok, nmX8, rfl, rfl, rfl⟩
theorem fl_X8_80 : zFL RX8 80 8 37 (.array .boolean) true := ⟨_, _, _, tyX8, rfl, by decide, in_X8, zi 850 (by decide +kernel) rfl, tyX8_ok, nmX8, rfl, rfl, rfl⟩
theorem fl_X8_83 : zFL RX8 83 8 38 (.array .int) true := ⟨_, _, _, tyX8, rfl, by decide, in_X8, zi 851 (by decide +kernel) rfl, tyX8_ok, nmX8, rfl, rfl, rfl⟩
theorem fl_X8_86 : zFL RX8 86 8 39 (.array .int) true := ⟨_, _, _, tyX8, rfl, by decide, in_X8, zi 852 (by decide +kernel) rfl, tyX8_ok, nmX8, rfl, rfl, rfl⟩
theorem fl_X8_144 : zFL RX8 144 8 40 (.int) false := ⟨_, _, _, tyX8, rfl, by decide, in_X8, zi 853 (by decide +kernel) rfl, tyX8_ok, nmX8, rfl, rfl, rfl⟩
theorem fl_X8_89 : zFL RX8 89 8 41 (.int) false := ⟨_, _, _, tyX8, rfl, by decide, in_X8, zi 854 (by decide +kernel) rfl, tyX8_ok, nmX8, rfl, rfl, rfl⟩
theorem fl_X8_117 : zFL RX8 117 8 42 (.int) false := ⟨_, _, _, tyX8, rfl, by decide, in_X8, zi 855 (by decide +kernel) rfl, tyX8_ok, nmX8, rfl, rfl, rfl⟩
theorem fl_X8_120 : zFL RX8 120 8 43 (.int) false := ⟨_, _, _, tyX8, rfl, by decide, in_X8, zi 856 (by decide +kernel) rfl, tyX8_ok, nmX8, rfl, rfl, rfl⟩
set_option maxRecDepth 100000 in
theorem mc_X7_init : Cond.code yX7_init cX7_init 1 none ∈ zW := zi 75 rfl rfl
theorem mi_X7_init : Cond.initialized yX7_init.cls ∈ zW := zi 53 (by decide +kernel) rfl
theorem mn_X7_init : yX7_init.cls ≠ "java/lang/invoke/MethodHandle" ∧ yX7_init.cls ≠ "java/lang/invoke/VarHandle" ∧ (parseMethodDescriptor yX7_init.desc).map (fun d => d.parameters.length) = some 0 := by decide +kernel
theorem mm_X7_init : Cond.instanceMethod yX7_init ∈ zW := zi 74 (by decide +kernel) rfl
set_option maxRecDepth 100000 in
theorem mc_X7_below : Cond.code yX7_below cX7_below 4 (some .int) ∈ zW := zi 510 rfl rfl
theorem mi_X7_below : Cond.initialized yX7_below.cls ∈ zW := zi 53 (by decide +kernel) rfl
theorem mn_X7_below : yX7_below.cls ≠ "java/lang/invoke/MethodHandle" ∧ yX7_below.cls ≠ "java/lang/invoke/VarHandle" ∧ (parseMethodDescriptor yX7_below.desc).map (fun d => d.parameters.length) = some 2 := by decide +kernel
theorem mm_X7_below : Cond.instanceMethod yX7_below ∈ zW := zi 508 (by decide +kernel) rfl
theorem mv_X7_below : Cond.selects yX7_below.cls yX7_below yX7_below ∈ zW := zi 509 (by decide +kernel) rfl
set_option maxRecDepth 100000 in
theorem mc_X7_best : Cond.code yX7_best cX7_best 2 (some .int) ∈ zW := zi 562 rfl rfl
theorem mi_X7_best : Cond.initialized yX7_best.cls ∈ zW := zi 53 (by decide +kernel) rfl
theorem mn_X7_best : yX7_best.cls ≠ "java/lang/invoke/MethodHandle" ∧ yX7_best.cls ≠ "java/lang/invoke/VarHandle" ∧ (parseMethodDescriptor yX7_best.desc).map (fun d => d.parameters.length) = some 1 := by decide +kernel
theorem mm_X7_best : Cond.instanceMethod yX7_best ∈ zW := zi 560 (by decide +kernel) rfl
theorem mv_X7_best : Cond.selects yX7_best.cls yX7_best yX7_best ∈ zW := zi 561 (by decide +kernel) rfl
set_option maxRecDepth 100000 in
theorem mc_X7_could : Cond.code yX7_could cX7_could 3 (some .int) ∈ zW := zi 590 rfl rfl
theorem mi_X7_could : Cond.initialized yX7_could.cls ∈ zW := zi 53 (by decide +kernel) rfl
theorem mn_X7_could : yX7_could.cls ≠ "java/lang/invoke/MethodHandle" ∧ yX7_could.cls ≠ "java/lang/invoke/VarHandle" ∧ (parseMethodDescriptor yX7_could.desc).map (fun d => d.parameters.length) = some 2 := by decide +kernel
theorem mm_X7_could : Cond.instanceMethod yX7_could ∈ zW := zi 588 (by decide +kernel) rfl
theorem mv_X7_could : Cond.selects yX7_could.cls yX7_could yX7_could ∈ zW := zi 589 (by decide +kernel) rfl
set_option maxRecDepth 100000 in
theorem mc_X7_count : Cond.code yX7_count cX7_count 2 (some .long) ∈ zW := zi 697 rfl rfl
theorem mi_X7_count : Cond.initialized yX7_count.cls ∈ zW := zi 53 (by decide +kernel) rfl
theorem mn_X7_count : yX7_count.cls ≠ "java/lang/invoke/MethodHandle" ∧ yX7_count.cls ≠ "java/lang/invoke/VarHandle" ∧ (parseMethodDescriptor yX7_count.desc).map (fun d => d.parameters.length) = some 1 := by decide +kernel
theorem mm_X7_count : Cond.instanceMethod yX7_count ∈ zW := zi 695 (by decide +kernel) rfl
theorem mv_X7_count : Cond.selects yX7_count.cls yX7_count yX7_count ∈ zW := zi 696 (by decide +kernel) rfl
set_option maxRecDepth 100000 in
theorem mc_X7_coupon : Cond.code yX7_coupon cX7_coupon 5 (some .int) ∈ zW := zi 311 rfl rfl
theorem mi_X7_coupon : Cond.initialized yX7_coupon.cls ∈ zW := zi 53 (by decide +kernel) rfl
theorem mn_X7_coupon : yX7_coupon.cls ≠ "java/lang/invoke/MethodHandle" ∧ yX7_coupon.cls ≠ "java/lang/invoke/VarHandle" ∧ (parseMethodDescriptor yX7_coupon.desc).map (fun d => d.parameters.length) = some 2 := by decide +kernel
theorem mm_X7_coupon : Cond.instanceMethod yX7_coupon ∈ zW := zi 309 (by decide +kernel) rfl
theorem mv_X7_coupon : Cond.selects yX7_coupon.cls yX7_coupon yX7_coupon ∈ zW := zi 310 (by decide +kernel) rfl
set_option maxRecDepth 100000 in
theorem mc_X7_divided : Cond.code yX7_divided cX7_divided 4 (some .long) ∈ zW := zi 703 rfl rfl
theorem mi_X7_divided : Cond.initialized yX7_divided.cls ∈ zW := zi 53 (by decide +kernel) rfl
theorem mn_X7_divided : yX7_divided.cls ≠ "java/lang/invoke/MethodHandle" ∧ yX7_divided.cls ≠ "java/lang/invoke/VarHandle" ∧ (parseMethodDescriptor yX7_divided.desc).map (fun d => d.parameters.length) = some 2 := by decide +kernel
theorem mm_X7_divided : Cond.instanceMethod yX7_divided ∈ zW := zi 701 (by decide +kernel) rfl
theorem mv_X7_divided : Cond.selects yX7_divided.cls yX7_divided yX7_divided ∈ zW := zi 702 (by decide +kernel) rfl
set_option maxRecDepth 100000 in
theorem mc_X7_dividend : Cond.code yX7_dividend cX7_dividend 4 (some .int) ∈ zW := zi 611 rfl rfl
theorem mi_X7_dividend : Cond.initialized yX7_dividend.cls ∈ zW := zi 53 (by decide +kernel) rfl
theorem mn_X7_dividend : yX7_dividend.cls ≠ "java/lang/invoke/MethodHandle" ∧ yX7_dividend.cls ≠ "java/lang/invoke/VarHandle" ∧ (parseMethodDescriptor yX7_dividend.desc).map (fun d => d.parameters.length) = some 3 := by decide +kernel
theorem mm_X7_dividend : Cond.instanceMethod yX7_dividend ∈ zW := zi 609 (by decide +kernel) rfl
theorem mv_X7_dividend : Cond.selects yX7_dividend.cls yX7_dividend yX7_dividend ∈ zW := zi 610 (by decide +kernel) rfl
set_option maxRecDepth 100000 in
theorem mc_X7_end : Cond.code yX7_end cX7_end 2 (some .boolean) ∈ zW := zi 303 rfl rfl
theorem mi_X7_end : Cond.initialized yX7_end.cls ∈ zW := zi 53 (by decide +kernel) rfl
theorem mn_X7_end : yX7_end.cls ≠ "java/lang/invoke/MethodHandle" ∧ yX7_end.cls ≠ "java/lang/invoke/VarHandle" ∧ (parseMethodDescriptor yX7_end.desc).map (fun d => d.parameters.length) = some 1 := by decide +kernel
theorem mm_X7_end : Cond.instanceMethod yX7_end ∈ zW := zi 301 (by decide +kernel) rfl
theorem mv_X7_end : Cond.selects yX7_end.cls yX7_end yX7_end ∈ zW := zi 302 (by decide +kernel) rfl
set_option maxRecDepth 100000 in
theorem mc_X7_fault : Cond.code yX7_fault cX7_fault 2 (some .int) ∈ zW := zi 487 rfl rfl
theorem mi_X7_fault : Cond.initialized yX7_fault.cls ∈ zW := zi 53 (by decide +kernel) rfl
theorem mn_X7_fault : yX7_fault.cls ≠ "java/lang/invoke/MethodHandle" ∧ yX7_fault.cls ≠ "java/lang/invoke/VarHandle" ∧ (parseMethodDescriptor yX7_fault.desc).map (fun d => d.parameters.length) = some 1 := by decide +kernel
theorem mm_X7_fault : Cond.instanceMethod yX7_fault ∈ zW := zi 485 (by decide +kernel) rfl
theorem mv_X7_fault : Cond.selects yX7_fault.cls yX7_fault yX7_fault ∈ zW := zi 486 (by decide +kernel) rfl
set_option maxRecDepth 100000 in
theorem mc_X7_feed : Cond.code yX7_feed cX7_feed 6 (some .int) ∈ zW := zi 291 rfl rfl
theorem mi_X7_feed : Cond.initialized yX7_feed.cls ∈ zW := zi 53 (by decide +kernel) rfl
theorem mn_X7_feed : yX7_feed.cls ≠ "java/lang/invoke/MethodHandle" ∧ yX7_feed.cls ≠ "java/lang/invoke/VarHandle" ∧ (parseMethodDescriptor yX7_feed.desc).map (fun d => d.parameters.length) = some 5 := by decide +kernel
theorem mm_X7_feed : Cond.instanceMethod yX7_feed ∈ zW := zi 289 (by decide +kernel) rfl
theorem mv_X7_feed : Cond.selects yX7_feed.cls yX7_feed yX7_feed ∈ zW := zi 290 (by decide +kernel) rfl
set_option maxRecDepth 100000 in
theorem mc_X7_greatestPoints : Cond.code yX7_greatestPoints cX7_greatestPoints 4 (some .int) ∈ zW := zi 566 rfl rfl
theorem mi_X7_greatestPoints : Cond.initialized yX7_greatestPoints.cls ∈ zW := zi 53 (by decide +kernel) rfl
theorem mn_X7_greatestPoints : yX7_greatestPoints.cls ≠ "java/lang/invoke/MethodHandle" ∧ yX7_greatestPoints.cls ≠ "java/lang/invoke/VarHandle" ∧ (parseMethodDescriptor yX7_greatestPoints.desc).map (fun d => d.parameters.length) = some 2 := by decide +kernel
theorem mm_X7_greatestPoints : Cond.instanceMethod yX7_greatestPoints ∈ zW := zi 565 (by decide +kernel) rfl
theorem mv_X7_greatestPoints : Cond.selects yX7_greatestPoints.cls yX7_greatestPoints yX7_greatestPoints ∈ zW := zi 16 (by decide +kernel) rfl
set_option maxRecDepth 100000 in
theorem mc_X7_house : Cond.code yX7_house cX7_house 4 (some .int) ∈ zW := zi 607 rfl rfl
theorem mi_X7_house : Cond.initialized yX7_house.cls ∈ zW := zi 53 (by decide +kernel) rfl
theorem mn_X7_house : yX7_house.cls ≠ "java/lang/invoke/MethodHandle" ∧ yX7_house.cls ≠ "java/lang/invoke/VarHandle" ∧ (parseMethodDescriptor yX7_house.desc).map (fun d => d.parameters.length) = some 2 := by decide +kernel
theorem mm_X7_house : Cond.instanceMethod yX7_house ∈ zW := zi 605 (by decide +kernel) rfl
theorem mv_X7_house : Cond.selects yX7_house.cls yX7_house yX7_house ∈ zW := zi 606 (by decide +kernel) rfl
set_option maxRecDepth 100000 in
theorem mc_X7_isIn : Cond.code yX7_isIn cX7_isIn 3 (some .boolean) ∈ zW := zi 272 rfl rfl
theorem mi_X7_isIn : Cond.initialized yX7_isIn.cls ∈ zW := zi 53 (by decide +kernel) rfl
theorem mn_X7_isIn : yX7_isIn.cls ≠ "java/lang/invoke/MethodHandle" ∧ yX7_isIn.cls ≠ "java/lang/invoke/VarHandle" ∧ (parseMethodDescriptor yX7_isIn.desc).map (fun d => d.parameters.length) = some 3 := by decide +kernel
theorem ms_X7_isIn : Cond.static yX7_isIn ∈ zW := zi 271 (by decide +kernel) rfl
set_option maxRecDepth 100000 in
theorem mc_X7_leastWorth : Cond.code yX7_leastWorth cX7_leastWorth 3 (some .int) ∈ zW := zi 602 rfl rfl
theorem mi_X7_leastWorth : Cond.initialized yX7_leastWorth.cls ∈ zW := zi 53 (by decide +kernel) rfl
theorem mn_X7_leastWorth : yX7_leastWorth.cls ≠ "java/lang/invoke/MethodHandle" ∧ yX7_leastWorth.cls ≠ "java/lang/invoke/VarHandle" ∧ (parseMethodDescriptor yX7_leastWorth.desc).map (fun d => d.parameters.length) = some 0 := by decide +kernel
theorem mm_X7_leastWorth : Cond.instanceMethod yX7_leastWorth ∈ zW := zi 601 (by decide +kernel) rfl
theorem mv_X7_leastWorth : Cond.selects yX7_leastWorth.cls yX7_leastWorth yX7_leastWorth ∈ zW := zi 20 (by decide +kernel) rfl
set_option maxRecDepth 100000 in
theorem mc_X7_line : Cond.code yX7_line cX7_line 4 (some .int) ∈ zW := zi 499 rfl rfl
theorem mi_X7_line : Cond.initialized yX7_line.cls ∈ zW := zi 53 (by decide +kernel) rfl
theorem mn_X7_line : yX7_line.cls ≠ "java/lang/invoke/MethodHandle" ∧ yX7_line.cls ≠ "java/lang/invoke/VarHandle" ∧ (parseMethodDescriptor yX7_line.desc).map (fun d => d.parameters.length) = some 2 := by decide +kernel
theorem mm_X7_line : Cond.instanceMethod yX7_line ∈ zW := zi 497 (by decide +kernel) rfl
theorem mv_X7_line : Cond.selects yX7_line.cls yX7_line yX7_line ∈ zW := zi 498 (by decide +kernel) rfl
set_option maxRecDepth 100000 in
theorem mc_X7_mostWorth : Cond.code yX7_mostWorth cX7_mostWorth 3 (some .int) ∈ zW := zi 585 rfl rfl
theorem mi_X7_mostWorth : Cond.initialized yX7_mostWorth.cls ∈ zW := zi 53 (by decide +kernel) rfl
theorem mn_X7_mostWorth : yX7_mostWorth.cls ≠ "java/lang/invoke/MethodHandle" ∧ yX7_mostWorth.cls ≠ "java/lang/invoke/VarHandle" ∧ (parseMethodDescriptor yX7_mostWorth.desc).map (fun d => d.parameters.length) = some 0 := by decide +kernel
theorem mm_X7_mostWorth : Cond.instanceMethod yX7_mostWorth ∈ zW := zi 584 (by decide +kernel) rfl
theorem mv_X7_mostWorth : Cond.selects yX7_mostWorth.cls yX7_mostWorth yX7_mostWorth ∈ zW := zi 18 (by decide +kernel) rfl
set_option maxRecDepth 100000 in
theorem mc_X7_outcome : Cond.code yX7_outcome cX7_outcome 2 (some .int) ∈ zW := zi 283 rfl rfl
theorem mi_X7_outcome : Cond.initialized yX7_outcome.cls ∈ zW := zi 53 (by decide +kernel) rfl
theorem mn_X7_outcome : yX7_outcome.cls ≠ "java/lang/invoke/MethodHandle" ∧ yX7_outcome.cls ≠ "java/lang/invoke/VarHandle" ∧ (parseMethodDescriptor yX7_outcome.desc).map (fun d => d.parameters.length) = some 1 := by decide +kernel
theorem mm_X7_outcome : Cond.instanceMethod yX7_outcome ∈ zW := zi 281 (by decide +kernel) rfl
theorem mv_X7_outcome : Cond.selects yX7_outcome.cls yX7_outcome yX7_outcome ∈ zW := zi 282 (by decide +kernel) rfl
set_option maxRecDepth 100000 in
theorem mc_X7_outcomeOfGoals : Cond.code yX7_outcomeOfGoals cX7_outcomeOfGoals 2 (some .int) ∈ zW := zi 275 rfl rfl
theorem mi_X7_outcomeOfGoals : Cond.initialized yX7_outcomeOfGoals.cls ∈ zW := zi 53 (by decide +kernel) rfl
theorem mn_X7_outcomeOfGoals : yX7_outcomeOfGoals.cls ≠ "java/lang/invoke/MethodHandle" ∧ yX7_outcomeOfGoals.cls ≠ "java/lang/invoke/VarHandle" ∧ (parseMethodDescriptor yX7_outcomeOfGoals.desc).map (fun d => d.parameters.length) = some 2 := by decide +kernel
theorem ms_X7_outcomeOfGoals : Cond.static yX7_outcomeOfGoals ∈ zW := zi 274 (by decide +kernel) rfl
set_option maxRecDepth 100000 in
theorem mc_X7_panel : Cond.code yX7_panel cX7_panel 3 (some .boolean) ∈ zW := zi 279 rfl rfl
theorem mi_X7_panel : Cond.initialized yX7_panel.cls ∈ zW := zi 53 (by decide +kernel) rfl
theorem mn_X7_panel : yX7_panel.cls ≠ "java/lang/invoke/MethodHandle" ∧ yX7_panel.cls ≠ "java/lang/invoke/VarHandle" ∧ (parseMethodDescriptor yX7_panel.desc).map (fun d => d.parameters.length) = some 2 := by decide +kernel
theorem mm_X7_panel : Cond.instanceMethod yX7_panel ∈ zW := zi 277 (by decide +kernel) rfl
theorem mv_X7_panel : Cond.selects yX7_panel.cls yX7_panel yX7_panel ∈ zW := zi 278 (by decide +kernel) rfl
set_option maxRecDepth 100000 in
theorem mc_X7_points : Cond.code yX7_points cX7_points 3 (some .boolean) ∈ zW := zi 287 rfl rfl
theorem mi_X7_points : Cond.initialized yX7_points.cls ∈ zW := zi 53 (by decide +kernel) rfl
theorem mn_X7_points : yX7_points.cls ≠ "java/lang/invoke/MethodHandle" ∧ yX7_points.cls ≠ "java/lang/invoke/VarHandle" ∧ (parseMethodDescriptor yX7_points.desc).map (fun d => d.parameters.length) = some 2 := by decide +kernel
theorem mm_X7_points : Cond.instanceMethod yX7_points ∈ zW := zi 285 (by decide +kernel) rfl
theorem mv_X7_points : Cond.selects yX7_points.cls yX7_points yX7_points ∈ zW := zi 286 (by decide +kernel) rfl
set_option maxRecDepth 100000 in
theorem mc_X7_prize : Cond.code yX7_prize cX7_prize 3 (some .long) ∈ zW := zi 708 rfl rfl
theorem mi_X7_prize : Cond.initialized yX7_prize.cls ∈ zW := zi 53 (by decide +kernel) rfl
theorem mn_X7_prize : yX7_prize.cls ≠ "java/lang/invoke/MethodHandle" ∧ yX7_prize.cls ≠ "java/lang/invoke/VarHandle" ∧ (parseMethodDescriptor yX7_prize.desc).map (fun d => d.parameters.length) = some 2 := by decide +kernel
theorem mm_X7_prize : Cond.instanceMethod yX7_prize ∈ zW := zi 706 (by decide +kernel) rfl
theorem mv_X7_prize : Cond.selects yX7_prize.cls yX7_prize yX7_prize ∈ zW := zi 707 (by decide +kernel) rfl
set_option maxRecDepth 100000 in
theorem mc_X7_repeal : Cond.code yX7_repeal cX7_repeal 1 (some .int) ∈ zW := zi 629 rfl rfl
theorem mi_X7_repeal : Cond.initialized yX7_repeal.cls ∈ zW := zi 53 (by decide +kernel) rfl
theorem mn_X7_repeal : yX7_repeal.cls ≠ "java/lang/invoke/MethodHandle" ∧ yX7_repeal.cls ≠ "java/lang/invoke/VarHandle" ∧ (parseMethodDescriptor yX7_repeal.desc).map (fun d => d.parameters.length) = some 0 := by decide +kernel
theorem mm_X7_repeal : Cond.instanceMethod yX7_repeal ∈ zW := zi 627 (by decide +kernel) rfl
theorem mv_X7_repeal : Cond.selects yX7_repeal.cls yX7_repeal yX7_repeal ∈ zW := zi 628 (by decide +kernel) rfl
set_option maxRecDepth 100000 in
theorem mc_X7_score : Cond.code yX7_score cX7_score 4 (some .boolean) ∈ zW := zi 269 rfl rfl
theorem mi_X7_score : Cond.initialized yX7_score.cls ∈ zW := zi 53 (by decide +kernel) rfl
theorem mn_X7_score : yX7_score.cls ≠ "java/lang/invoke/MethodHandle" ∧ yX7_score.cls ≠ "java/lang/invoke/VarHandle" ∧ (parseMethodDescriptor yX7_score.desc).map (fun d => d.parameters.length) = some 3 := by decide +kernel
theorem mm_X7_score : Cond.instanceMethod yX7_score ∈ zW := zi 267 (by decide +kernel) rfl
theorem mv_X7_score : Cond.selects yX7_score.cls yX7_score yX7_score ∈ zW := zi 268 (by decide +kernel) rfl
set_option maxRecDepth 100000 in
theorem mc_X7_settle : Cond.code yX7_settle cX7_settle 1 (some .long) ∈ zW := zi 641 rfl rfl
theorem mi_X7_settle : Cond.initialized yX7_settle.cls ∈ zW := zi 53 (by decide +kernel) rfl
theorem mn_X7_settle : yX7_settle.cls ≠ "java/lang/invoke/MethodHandle" ∧ yX7_settle.cls ≠ "java/lang/invoke/VarHandle" ∧ (parseMethodDescriptor yX7_settle.desc).map (fun d => d.parameters.length) = some 0 := by decide +kernel
theorem mm_X7_settle : Cond.instanceMethod yX7_settle ∈ zW := zi 639 (by decide +kernel) rfl
theorem mv_X7_settle : Cond.selects yX7_settle.cls yX7_settle yX7_settle ∈ zW := zi 640 (by decide +kernel) rfl
set_option maxRecDepth 100000 in
theorem mc_X7_sizeWithPoints : Cond.code yX7_sizeWithPoints cX7_sizeWithPoints 5 (some .int) ∈ zW := zi 594 rfl rfl
theorem mi_X7_sizeWithPoints : Cond.initialized yX7_sizeWithPoints.cls ∈ zW := zi 53 (by decide +kernel) rfl
theorem mn_X7_sizeWithPoints : yX7_sizeWithPoints.cls ≠ "java/lang/invoke/MethodHandle" ∧ yX7_sizeWithPoints.cls ≠ "java/lang/invoke/VarHandle" ∧ (parseMethodDescriptor yX7_sizeWithPoints.desc).map (fun d => d.parameters.length) = some 3 := by decide +kernel
theorem mm_X7_sizeWithPoints : Cond.instanceMethod yX7_sizeWithPoints ∈ zW := zi 593 (by decide +kernel) rfl
theorem mv_X7_sizeWithPoints : Cond.selects yX7_sizeWithPoints.cls yX7_sizeWithPoints yX7_sizeWithPoints ∈ zW := zi 19 (by decide +kernel) rfl
set_option maxRecDepth 100000 in
theorem mc_X7_still : Cond.code yX7_still cX7_still 2 (some .int) ∈ zW := zi 581 rfl rfl
theorem mi_X7_still : Cond.initialized yX7_still.cls ∈ zW := zi 53 (by decide +kernel) rfl
theorem mn_X7_still : yX7_still.cls ≠ "java/lang/invoke/MethodHandle" ∧ yX7_still.cls ≠ "java/lang/invoke/VarHandle" ∧ (parseMethodDescriptor yX7_still.desc).map (fun d => d.parameters.length) = some 1 := by decide +kernel
theorem mm_X7_still : Cond.instanceMethod yX7_still ∈ zW := zi 579 (by decide +kernel) rfl
theorem mv_X7_still : Cond.selects yX7_still.cls yX7_still yX7_still ∈ zW := zi 580 (by decide +kernel) rfl
set_option maxRecDepth 100000 in
theorem mc_X7_sure : Cond.code yX7_sure cX7_sure 3 (some .int) ∈ zW := zi 598 rfl rfl
theorem mi_X7_sure : Cond.initialized yX7_sure.cls ∈ zW := zi 53 (by decide +kernel) rfl
theorem mn_X7_sure : yX7_sure.cls ≠ "java/lang/invoke/MethodHandle" ∧ yX7_sure.cls ≠ "java/lang/invoke/VarHandle" ∧ (parseMethodDescriptor yX7_sure.desc).map (fun d => d.parameters.length) = some 2 := by decide +kernel
theorem mm_X7_sure : Cond.instanceMethod yX7_sure ∈ zW := zi 596 (by decide +kernel) rfl
theorem mv_X7_sure : Cond.selects yX7_sure.cls yX7_sure yX7_sure ∈ zW := zi 597 (by decide +kernel) rfl
set_option maxRecDepth 100000 in
theorem mc_X7_tear : Cond.code yX7_tear cX7_tear 4 (some .boolean) ∈ zW := zi 491 rfl rfl
theorem mi_X7_tear : Cond.initialized yX7_tear.cls ∈ zW := zi 53 (by decide +kernel) rfl
theorem mn_X7_tear : yX7_tear.cls ≠ "java/lang/invoke/MethodHandle" ∧ yX7_tear.cls ≠ "java/lang/invoke/VarHandle" ∧ (parseMethodDescriptor yX7_tear.desc).map (fun d => d.parameters.length) = some 2 := by decide +kernel
theorem mm_X7_tear : Cond.instanceMethod yX7_tear ∈ zW := zi 489 (by decide +kernel) rfl
theorem mv_X7_tear : Cond.selects yX7_tear.cls yX7_tear yX7_tear ∈ zW := zi 490 (by decide +kernel) rfl
set_option maxRecDepth 100000 in
theorem mc_X7_told : Cond.code yX7_told cX7_told 4 (some .int) ∈ zW := zi 725 rfl rfl
theorem mi_X7_told : Cond.initialized yX7_told.cls ∈ zW := zi 53 (by decide +kernel) rfl
theorem mn_X7_told : yX7_told.cls ≠ "java/lang/invoke/MethodHandle" ∧ yX7_told.cls ≠ "java/lang/invoke/VarHandle" ∧ (parseMethodDescriptor yX7_told.desc).map (fun d => d.parameters.length) = some 2 := by decide +kernel
theorem mm_X7_told : Cond.instanceMethod yX7_told ∈ zW := zi 723 (by decide +kernel) rfl
theorem mv_X7_told : Cond.selects yX7_told.cls yX7_told yX7_told ∈ zW := zi 724 (by decide +kernel) rfl
set_option maxRecDepth 100000 in
theorem mc_X7_undo : Cond.code yX7_undo cX7_undo 1 (some .int) ∈ zW := zi 717 rfl rfl
theorem mi_X7_undo : Cond.initialized yX7_undo.cls ∈ zW := zi 53 (by decide +kernel) rfl
theorem mn_X7_undo : yX7_undo.cls ≠ "java/lang/invoke/MethodHandle" ∧ yX7_undo.cls ≠ "java/lang/invoke/VarHandle" ∧ (parseMethodDescriptor yX7_undo.desc).map (fun d => d.parameters.length) = some 0 := by decide +kernel
theorem mm_X7_undo : Cond.instanceMethod yX7_undo ∈ zW := zi 715 (by decide +kernel) rfl
theorem mv_X7_undo : Cond.selects yX7_undo.cls yX7_undo yX7_undo ∈ zW := zi 716 (by decide +kernel) rfl
set_option maxRecDepth 100000 in
theorem mc_X7_unlike : Cond.code yX7_unlike cX7_unlike 5 (some .int) ∈ zW := zi 521 rfl rfl
theorem mi_X7_unlike : Cond.initialized yX7_unlike.cls ∈ zW := zi 53 (by decide +kernel) rfl
theorem mn_X7_unlike : yX7_unlike.cls ≠ "java/lang/invoke/MethodHandle" ∧ yX7_unlike.cls ≠ "java/lang/invoke/VarHandle" ∧ (parseMethodDescriptor yX7_unlike.desc).map (fun d => d.parameters.length) = some 2 := by decide +kernel
theorem mm_X7_unlike : Cond.instanceMethod yX7_unlike ∈ zW := zi 519 (by decide +kernel) rfl
theorem mv_X7_unlike : Cond.selects yX7_unlike.cls yX7_unlike yX7_unlike ∈ zW := zi 520 (by decide +kernel) rfl
set_option maxRecDepth 100000 in
theorem mc_X7_weighWithout : Cond.code yX7_weighWithout cX7_weighWithout 2 none ∈ zW := zi 533 rfl rfl
theorem mi_X7_weighWithout : Cond.initialized yX7_weighWithout.cls ∈ zW := zi 53 (by decide +kernel) rfl
theorem mn_X7_weighWithout : yX7_weighWithout.cls ≠ "java/lang/invoke/MethodHandle" ∧ yX7_weighWithout.cls ≠ "java/lang/invoke/VarHandle" ∧ (parseMethodDescriptor yX7_weighWithout.desc).map (fun d => d.parameters.length) = some 1 := by decide +kernel
theorem mm_X7_weighWithout : Cond.instanceMethod yX7_weighWithout ∈ zW := zi 532 (by decide +kernel) rfl
theorem mv_X7_weighWithout : Cond.selects yX7_weighWithout.cls yX7_weighWithout yX7_weighWithout ∈ zW := zi 12 (by decide +kernel) rfl
set_option maxRecDepth 100000 in
theorem mc_X7_win : Cond.code yX7_win cX7_win 4 (some .int) ∈ zW := zi 529 rfl rfl
theorem mi_X7_win : Cond.initialized yX7_win.cls ∈ zW := zi 53 (by decide +kernel) rfl
theorem mn_X7_win : yX7_win.cls ≠ "java/lang/invoke/MethodHandle" ∧ yX7_win.cls ≠ "java/lang/invoke/VarHandle" ∧ (parseMethodDescriptor yX7_win.desc).map (fun d => d.parameters.length) = some 2 := by decide +kernel
theorem mm_X7_win : Cond.instanceMethod yX7_win ∈ zW := zi 527 (by decide +kernel) rfl
theorem mv_X7_win : Cond.selects yX7_win.cls yX7_win yX7_win ∈ zW := zi 528 (by decide +kernel) rfl
set_option maxRecDepth 100000 in
theorem mc_X0_init : Cond.code yX0_init cX0_init 2 none ∈ zW := zi 151 rfl rfl
theorem mi_X0_init : Cond.initialized yX0_init.cls ∈ zW := zi 57 (by decide +kernel) rfl
theorem mn_X0_init : yX0_init.cls ≠ "java/lang/invoke/MethodHandle" ∧ yX0_init.cls ≠ "java/lang/invoke/VarHandle" ∧ (parseMethodDescriptor yX0_init.desc).map (fun d => d.parameters.length) = some 0 := by decide +kernel
theorem mm_X0_init : Cond.instanceMethod yX0_init ∈ zW := zi 150 (by decide +kernel) rfl
set_option maxRecDepth 100000 in
theorem mc_X0_addCoupon : Cond.code yX0_addCoupon cX0_addCoupon 2 (some .int) ∈ zW := zi 483 rfl rfl
theorem mi_X0_addCoupon : Cond.initialized yX0_addCoupon.cls ∈ zW := zi 57 (by decide +kernel) rfl
theorem mn_X0_addCoupon : yX0_addCoupon.cls ≠ "java/lang/invoke/MethodHandle" ∧ yX0_addCoupon.cls ≠ "java/lang/invoke/VarHandle" ∧ (parseMethodDescriptor yX0_addCoupon.desc).map (fun d => d.parameters.length) = some 1 := by decide +kernel
theorem mm_X0_addCoupon : Cond.instanceMethod yX0_addCoupon ∈ zW := zi 481 (by decide +kernel) rfl
theorem mv_X0_addCoupon : Cond.selects yX0_addCoupon.cls yX0_addCoupon yX0_addCoupon ∈ zW := zi 482 (by decide +kernel) rfl
set_option maxRecDepth 100000 in
theorem mc_X0_addDividend : Cond.code yX0_addDividend cX0_addDividend 5 (some .int) ∈ zW := zi 616 rfl rfl
theorem mi_X0_addDividend : Cond.initialized yX0_addDividend.cls ∈ zW := zi 57 (by decide +kernel) rfl
theorem mn_X0_addDividend : yX0_addDividend.cls ≠ "java/lang/invoke/MethodHandle" ∧ yX0_addDividend.cls ≠ "java/lang/invoke/VarHandle" ∧ (parseMethodDescriptor yX0_addDividend.desc).map (fun d => d.parameters.length) = some 3 := by decide +kernel
theorem mm_X0_addDividend : Cond.instanceMethod yX0_addDividend ∈ zW := zi 614 (by decide +kernel) rfl
theorem mv_X0_addDividend : Cond.selects yX0_addDividend.cls yX0_addDividend yX0_addDividend ∈ zW := zi 615 (by decide +kernel) rfl
set_option maxRecDepth 100000 in
theorem mc_X0_beginNextWeek : Cond.code yX0_beginNextWeek cX0_beginNextWeek 1 none ∈ zW := zi 693 rfl rfl
theorem mi_X0_beginNextWeek : Cond.initialized yX0_beginNextWeek.cls ∈ zW := zi 57 (by decide +kernel) rfl
theorem mn_X0_beginNextWeek : yX0_beginNextWeek.cls ≠ "java/lang/invoke/MethodHandle" ∧ yX0_beginNextWeek.cls ≠ "java/lang/invoke/VarHandle" ∧ (parseMethodDescriptor yX0_beginNextWeek.desc).map (fun d => d.parameters.length) = some 0 := by decide +kernel
theorem mm_X0_beginNextWeek : Cond.instanceMethod yX0_beginNextWeek ∈ zW := zi 692 (by decide +kernel) rfl
theorem mv_X0_beginNextWeek : Cond.selects yX0_beginNextWeek.cls yX0_beginNextWeek yX0_beginNextWeek ∈ zW := zi 25 (by decide +kernel) rfl
set_option maxRecDepth 100000 in
theorem mc_X0_carriedMoney : Cond.code yX0_carriedMoney cX0_carriedMoney 4 (some .long) ∈ zW := zi 637 rfl rfl
theorem mi_X0_carriedMoney : Cond.initialized yX0_carriedMoney.cls ∈ zW := zi 57 (by decide +kernel) rfl
theorem mn_X0_carriedMoney : yX0_carriedMoney.cls ≠ "java/lang/invoke/MethodHandle" ∧ yX0_carriedMoney.cls ≠ "java/lang/invoke/VarHandle" ∧ (parseMethodDescriptor yX0_carriedMoney.desc).map (fun d => d.parameters.length) = some 0 := by decide +kernel
theorem mm_X0_carriedMoney : Cond.instanceMethod yX0_carriedMoney ∈ zW := zi 635 (by decide +kernel) rfl
theorem mv_X0_carriedMoney : Cond.selects yX0_carriedMoney.cls yX0_carriedMoney yX0_carriedMoney ∈ zW := zi 636 (by decide +kernel) rfl
set_option maxRecDepth 100000 in
theorem mc_X0_closeWeek : Cond.code yX0_closeWeek cX0_closeWeek 15 (some .long) ∈ zW := zi 659 rfl rfl
theorem mi_X0_closeWeek : Cond.initialized yX0_closeWeek.cls ∈ zW := zi 57 (by decide +kernel) rfl
theorem mn_X0_closeWeek : yX0_closeWeek.cls ≠ "java/lang/invoke/MethodHandle" ∧ yX0_closeWeek.cls ≠ "java/lang/invoke/VarHandle" ∧ (parseMethodDescriptor yX0_closeWeek.desc).map (fun d => d.parameters.length) = some 3 := by decide +kernel
theorem mm_X0_closeWeek : Cond.instanceMethod yX0_closeWeek ∈ zW := zi 657 (by decide +kernel) rfl
theorem mv_X0_closeWeek : Cond.selects yX0_closeWeek.cls yX0_closeWeek yX0_closeWeek ∈ zW := zi 658 (by decide +kernel) rfl
set_option maxRecDepth 100000 in
theorem mc_X0_copyFrom : Cond.code yX0_copyFrom cX0_copyFrom 3 none ∈ zW := zi 650 rfl rfl
theorem mi_X0_copyFrom : Cond.initialized yX0_copyFrom.cls ∈ zW := zi 57 (by decide +kernel) rfl
theorem mn_X0_copyFrom : yX0_copyFrom.cls ≠ "java/lang/invoke/MethodHandle" ∧ yX0_copyFrom.cls ≠ "java/lang/invoke/VarHandle" ∧ (parseMethodDescriptor yX0_copyFrom.desc).map (fun d => d.parameters.length) = some 1 := by decide +kernel
theorem mm_X0_copyFrom : Cond.instanceMethod yX0_copyFrom ∈ zW := zi 648 (by decide +kernel) rfl
theorem mv_X0_copyFrom : Cond.selects yX0_copyFrom.cls yX0_copyFrom yX0_copyFrom ∈ zW := zi 649 (by decide +kernel) rfl
set_option maxRecDepth 100000 in
theorem mc_X0_couponAt : Cond.code yX0_couponAt cX0_couponAt 2 (some (.object "PoolsHall$Coupon")) ∈ zW := zi 495 rfl rfl
theorem mi_X0_couponAt : Cond.initialized yX0_couponAt.cls ∈ zW := zi 57 (by decide +kernel) rfl
theorem mn_X0_couponAt : yX0_couponAt.cls ≠ "java/lang/invoke/MethodHandle" ∧ yX0_couponAt.cls ≠ "java/lang/invoke/VarHandle" ∧ (parseMethodDescriptor yX0_couponAt.desc).map (fun d => d.parameters.length) = some 1 := by decide +kernel
theorem mm_X0_couponAt : Cond.instanceMethod yX0_couponAt ∈ zW := zi 493 (by decide +kernel) rfl
theorem mv_X0_couponAt : Cond.selects yX0_couponAt.cls yX0_couponAt yX0_couponAt ∈ zW := zi 494 (by decide +kernel) rfl
set_option maxRecDepth 100000 in
theorem mc_X0_dividendAt : Cond.code yX0_dividendAt cX0_dividendAt 2 (some (.object "PoolsHall$Dividend")) ∈ zW := zi 620 rfl rfl
theorem mi_X0_dividendAt : Cond.initialized yX0_dividendAt.cls ∈ zW := zi 57 (by decide +kernel) rfl
theorem mn_X0_dividendAt : yX0_dividendAt.cls ≠ "java/lang/invoke/MethodHandle" ∧ yX0_dividendAt.cls ≠ "java/lang/invoke/VarHandle" ∧ (parseMethodDescriptor yX0_dividendAt.desc).map (fun d => d.parameters.length) = some 1 := by decide +kernel
theorem mm_X0_dividendAt : Cond.instanceMethod yX0_dividendAt ∈ zW := zi 618 (by decide +kernel) rfl
theorem mv_X0_dividendAt : Cond.selects yX0_dividendAt.cls yX0_dividendAt yX0_dividendAt ∈ zW := zi 619 (by decide +kernel) rfl
set_option maxRecDepth 100000 in
theorem mc_X0_dropDividends : Cond.code yX0_dropDividends cX0_dropDividends 2 (some .int) ∈ zW := zi 633 rfl rfl
theorem mi_X0_dropDividends : Cond.initialized yX0_dropDividends.cls ∈ zW := zi 57 (by decide +kernel) rfl
theorem mn_X0_dropDividends : yX0_dropDividends.cls ≠ "java/lang/invoke/MethodHandle" ∧ yX0_dropDividends.cls ≠ "java/lang/invoke/VarHandle" ∧ (parseMethodDescriptor yX0_dropDividends.desc).map (fun d => d.parameters.length) = some 0 := by decide +kernel
theorem mm_X0_dropDividends : Cond.instanceMethod yX0_dropDividends ∈ zW := zi 631 (by decide +kernel) rfl
theorem mv_X0_dropDividends : Cond.selects yX0_dropDividends.cls yX0_dropDividends yX0_dropDividends ∈ zW := zi 632 (by decide +kernel) rfl
set_option maxRecDepth 100000 in
theorem mc_X0_matchesDecided : Cond.code yX0_matchesDecided cX0_matchesDecided 3 (some .int) ∈ zW := zi 645 rfl rfl
theorem mi_X0_matchesDecided : Cond.initialized yX0_matchesDecided.cls ∈ zW := zi 57 (by decide +kernel) rfl
theorem mn_X0_matchesDecided : yX0_matchesDecided.cls ≠ "java/lang/invoke/MethodHandle" ∧ yX0_matchesDecided.cls ≠ "java/lang/invoke/VarHandle" ∧ (parseMethodDescriptor yX0_matchesDecided.desc).map (fun d => d.parameters.length) = some 0 := by decide +kernel
theorem mm_X0_matchesDecided : Cond.instanceMethod yX0_matchesDecided ∈ zW := zi 643 (by decide +kernel) rfl
theorem mv_X0_matchesDecided : Cond.selects yX0_matchesDecided.cls yX0_matchesDecided yX0_matchesDecided ∈ zW := zi 644 (by decide +kernel) rfl
set_option maxRecDepth 100000 in
theorem mc_X0_openPrizes : Cond.code yX0_openPrizes cX0_openPrizes 3 none ∈ zW := zi 673 rfl rfl
theorem mi_X0_openPrizes : Cond.initialized yX0_openPrizes.cls ∈ zW := zi 57 (by decide +kernel) rfl
theorem mn_X0_openPrizes : yX0_openPrizes.cls ≠ "java/lang/invoke/MethodHandle" ∧ yX0_openPrizes.cls ≠ "java/lang/invoke/VarHandle" ∧ (parseMethodDescriptor yX0_openPrizes.desc).map (fun d => d.parameters.length) = some 0 := by decide +kernel
theorem mm_X0_openPrizes : Cond.instanceMethod yX0_openPrizes ∈ zW := zi 672 (by decide +kernel) rfl
theorem mv_X0_openPrizes : Cond.selects yX0_openPrizes.cls yX0_openPrizes yX0_openPrizes ∈ zW := zi 22 (by decide +kernel) rfl
set_option maxRecDepth 100000 in
theorem mc_X0_payDividend : Cond.code yX0_payDividend cX0_payDividend 9 (some .long) ∈ zW := zi 677 rfl rfl
theorem mi_X0_payDividend : Cond.initialized yX0_payDividend.cls ∈ zW := zi 57 (by decide +kernel) rfl
theorem mn_X0_payDividend : yX0_payDividend.cls ≠ "java/lang/invoke/MethodHandle" ∧ yX0_payDividend.cls ≠ "java/lang/invoke/VarHandle" ∧ (parseMethodDescriptor yX0_payDividend.desc).map (fun d => d.parameters.length) = some 3 := by decide +kernel
theorem mm_X0_payDividend : Cond.instanceMethod yX0_payDividend ∈ zW := zi 676 (by decide +kernel) rfl
theorem mv_X0_payDividend : Cond.selects yX0_payDividend.cls yX0_payDividend yX0_payDividend ∈ zW := zi 23 (by decide +kernel) rfl
set_option maxRecDepth 100000 in
theorem mc_X0_prizeTold : Cond.code yX0_prizeTold cX0_prizeTold 6 (some .long) ∈ zW := zi 712 rfl rfl
theorem mi_X0_prizeTold : Cond.initialized yX0_prizeTold.cls ∈ zW := zi 57 (by decide +kernel) rfl
theorem mn_X0_prizeTold : yX0_prizeTold.cls ≠ "java/lang/invoke/MethodHandle" ∧ yX0_prizeTold.cls ≠ "java/lang/invoke/VarHandle" ∧ (parseMethodDescriptor yX0_prizeTold.desc).map (fun d => d.parameters.length) = some 2 := by decide +kernel
theorem mm_X0_prizeTold : Cond.instanceMethod yX0_prizeTold ∈ zW := zi 710 (by decide +kernel) rfl
theorem mv_X0_prizeTold : Cond.selects yX0_prizeTold.cls yX0_prizeTold yX0_prizeTold ∈ zW := zi 711 (by decide +kernel) rfl
set_option maxRecDepth 100000 in
theorem mc_X0_sharesTogether : Cond.code yX0_sharesTogether cX0_sharesTogether 3 (some .int) ∈ zW := zi 624 rfl rfl
theorem mi_X0_sharesTogether : Cond.initialized yX0_sharesTogether.cls ∈ zW := zi 57 (by decide +kernel) rfl
theorem mn_X0_sharesTogether : yX0_sharesTogether.cls ≠ "java/lang/invoke/MethodHandle" ∧ yX0_sharesTogether.cls ≠ "java/lang/invoke/VarHandle" ∧ (parseMethodDescriptor yX0_sharesTogether.desc).map (fun d => d.parameters.length) = some 0 := by decide +kernel
theorem mm_X0_sharesTogether : Cond.instanceMethod yX0_sharesTogether ∈ zW := zi 623 (by decide +kernel) rfl
theorem mv_X0_sharesTogether : Cond.selects yX0_sharesTogether.cls yX0_sharesTogether yX0_sharesTogether ∈ zW := zi 21 (by decide +kernel) rfl
set_option maxRecDepth 100000 in
theorem mc_X0_stakesInPlay : Cond.code yX0_stakesInPlay cX0_stakesInPlay 5 (some .long) ∈ zW := zi 663 rfl rfl
theorem mi_X0_stakesInPlay : Cond.initialized yX0_stakesInPlay.cls ∈ zW := zi 57 (by decide +kernel) rfl
theorem mn_X0_stakesInPlay : yX0_stakesInPlay.cls ≠ "java/lang/invoke/MethodHandle" ∧ yX0_stakesInPlay.cls ≠ "java/lang/invoke/VarHandle" ∧ (parseMethodDescriptor yX0_stakesInPlay.desc).map (fun d => d.parameters.length) = some 0 := by decide +kernel
theorem mm_X0_stakesInPlay : Cond.instanceMethod yX0_stakesInPlay ∈ zW := zi 661 (by decide +kernel) rfl
theorem mv_X0_stakesInPlay : Cond.selects yX0_stakesInPlay.cls yX0_stakesInPlay yX0_stakesInPlay ∈ zW := zi 662 (by decide +kernel) rfl
set_option maxRecDepth 100000 in
theorem mc_X0_winningCoins : Cond.code yX0_winningCoins cX0_winningCoins 8 (some .long) ∈ zW := zi 681 rfl rfl
theorem mi_X0_winningCoins : Cond.initialized yX0_winningCoins.cls ∈ zW := zi 57 (by decide +kernel) rfl
theorem mn_X0_winningCoins : yX0_winningCoins.cls ≠ "java/lang/invoke/MethodHandle" ∧ yX0_winningCoins.cls ≠ "java/lang/invoke/VarHandle" ∧ (parseMethodDescriptor yX0_winningCoins.desc).map (fun d => d.parameters.length) = some 3 := by decide +kernel
theorem mm_X0_winningCoins : Cond.instanceMethod yX0_winningCoins ∈ zW := zi 680 (by decide +kernel) rfl
theorem mv_X0_winningCoins : Cond.selects yX0_winningCoins.cls yX0_winningCoins yX0_winningCoins ∈ zW := zi 24 (by decide +kernel) rfl
set_option maxRecDepth 100000 in
theorem mc_X1_init : Cond.code yX1_init cX1_init 4 none ∈ zW := zi 452 rfl rfl
theorem mi_X1_init : Cond.initialized yX1_init.cls ∈ zW := zi 65 (by decide +kernel) rfl
theorem mn_X1_init : yX1_init.cls ≠ "java/lang/invoke/MethodHandle" ∧ yX1_init.cls ≠ "java/lang/invoke/VarHandle" ∧ (parseMethodDescriptor yX1_init.desc).map (fun d => d.parameters.length) = some 3 := by decide +kernel
theorem mm_X1_init : Cond.instanceMethod yX1_init ∈ zW := zi 451 (by decide +kernel) rfl
set_option maxRecDepth 100000 in
theorem mc_X1_stakeInCoins : Cond.code yX1_stakeInCoins cX1_stakeInCoins 1 (some .int) ∈ zW := zi 668 rfl rfl
theorem mi_X1_stakeInCoins : Cond.initialized yX1_stakeInCoins.cls ∈ zW := zi 65 (by decide +kernel) rfl
theorem mn_X1_stakeInCoins : yX1_stakeInCoins.cls ≠ "java/lang/invoke/MethodHandle" ∧ yX1_stakeInCoins.cls ≠ "java/lang/invoke/VarHandle" ∧ (parseMethodDescriptor yX1_stakeInCoins.desc).map (fun d => d.parameters.length) = some 0 := by decide +kernel
theorem mm_X1_stakeInCoins : Cond.instanceMethod yX1_stakeInCoins ∈ zW := zi 666 (by decide +kernel) rfl
theorem mv_X1_stakeInCoins : Cond.selects yX1_stakeInCoins.cls yX1_stakeInCoins yX1_stakeInCoins ∈ zW := zi 667 (by decide +kernel) rfl
set_option maxRecDepth 100000 in
theorem mc_X2_init : Cond.code yX2_init cX2_init 1 none ∈ zW := zi 163 rfl rfl
theorem mi_X2_init : Cond.initialized yX2_init.cls ∈ zW := zi 59 (by decide +kernel) rfl
theorem mn_X2_init : yX2_init.cls ≠ "java/lang/invoke/MethodHandle" ∧ yX2_init.cls ≠ "java/lang/invoke/VarHandle" ∧ (parseMethodDescriptor yX2_init.desc).map (fun d => d.parameters.length) = some 0 := by decide +kernel
theorem mm_X2_init : Cond.instanceMethod yX2_init ∈ zW := zi 162 (by decide +kernel) rfl
set_option maxRecDepth 100000 in
theorem mc_X2_begin : Cond.code yX2_begin cX2_begin 4 none ∈ zW := zi 168 rfl rfl
theorem mi_X2_begin : Cond.initialized yX2_begin.cls ∈ zW := zi 59 (by decide +kernel) rfl
theorem mn_X2_begin : yX2_begin.cls ≠ "java/lang/invoke/MethodHandle" ∧ yX2_begin.cls ≠ "java/lang/invoke/VarHandle" ∧ (parseMethodDescriptor yX2_begin.desc).map (fun d => d.parameters.length) = some 3 := by decide +kernel
theorem mm_X2_begin : Cond.instanceMethod yX2_begin ∈ zW := zi 166 (by decide +kernel) rfl
theorem mv_X2_begin : Cond.selects yX2_begin.cls yX2_begin yX2_begin ∈ zW := zi 167 (by decide +kernel) rfl
set_option maxRecDepth 100000 in
theorem mc_X2_copyFrom : Cond.code yX2_copyFrom cX2_copyFrom 2 none ∈ zW := zi 655 rfl rfl
theorem mi_X2_copyFrom : Cond.initialized yX2_copyFrom.cls ∈ zW := zi 59 (by decide +kernel) rfl
theorem mn_X2_copyFrom : yX2_copyFrom.cls ≠ "java/lang/invoke/MethodHandle" ∧ yX2_copyFrom.cls ≠ "java/lang/invoke/VarHandle" ∧ (parseMethodDescriptor yX2_copyFrom.desc).map (fun d => d.parameters.length) = some 1 := by decide +kernel
theorem mm_X2_copyFrom : Cond.instanceMethod yX2_copyFrom ∈ zW := zi 653 (by decide +kernel) rfl
theorem mv_X2_copyFrom : Cond.selects yX2_copyFrom.cls yX2_copyFrom yX2_copyFrom ∈ zW := zi 654 (by decide +kernel) rfl
set_option maxRecDepth 100000 in
theorem mc_X2_pay : Cond.code yX2_pay cX2_pay 6 (some .long) ∈ zW := zi 686 rfl rfl
theorem mi_X2_pay : Cond.initialized yX2_pay.cls ∈ zW := zi 59 (by decide +kernel) rfl
theorem mn_X2_pay : yX2_pay.cls ≠ "java/lang/invoke/MethodHandle" ∧ yX2_pay.cls ≠ "java/lang/invoke/VarHandle" ∧ (parseMethodDescriptor yX2_pay.desc).map (fun d => d.parameters.length) = some 2 := by decide +kernel
theorem mm_X2_pay : Cond.instanceMethod yX2_pay ∈ zW := zi 684 (by decide +kernel) rfl
theorem mv_X2_pay : Cond.selects yX2_pay.cls yX2_pay yX2_pay ∈ zW := zi 685 (by decide +kernel) rfl
set_option maxRecDepth 100000 in
theorem mc_X3_init : Cond.code yX3_init cX3_init 1 none ∈ zW := zi 376 rfl rfl
theorem mi_X3_init : Cond.initialized yX3_init.cls ∈ zW := zi 62 (by decide +kernel) rfl
theorem mn_X3_init : yX3_init.cls ≠ "java/lang/invoke/MethodHandle" ∧ yX3_init.cls ≠ "java/lang/invoke/VarHandle" ∧ (parseMethodDescriptor yX3_init.desc).map (fun d => d.parameters.length) = some 0 := by decide +kernel
theorem mm_X3_init : Cond.instanceMethod yX3_init ∈ zW := zi 375 (by decide +kernel) rfl
set_option maxRecDepth 100000 in
theorem mc_X3_addAll : Cond.code yX3_addAll cX3_addAll 3 none ∈ zW := zi 398 rfl rfl
theorem mi_X3_addAll : Cond.initialized yX3_addAll.cls ∈ zW := zi 62 (by decide +kernel) rfl
theorem mn_X3_addAll : yX3_addAll.cls ≠ "java/lang/invoke/MethodHandle" ∧ yX3_addAll.cls ≠ "java/lang/invoke/VarHandle" ∧ (parseMethodDescriptor yX3_addAll.desc).map (fun d => d.parameters.length) = some 1 := by decide +kernel
theorem mm_X3_addAll : Cond.instanceMethod yX3_addAll ∈ zW := zi 396 (by decide +kernel) rfl
theorem mv_X3_addAll : Cond.selects yX3_addAll.cls yX3_addAll yX3_addAll ∈ zW := zi 397 (by decide +kernel) rfl
set_option maxRecDepth 100000 in
theorem mc_X3_addJoined : Cond.code yX3_addJoined cX3_addJoined 10 none ∈ zW := zi 432 rfl rfl
theorem mi_X3_addJoined : Cond.initialized yX3_addJoined.cls ∈ zW := zi 62 (by decide +kernel) rfl
theorem mn_X3_addJoined : yX3_addJoined.cls ≠ "java/lang/invoke/MethodHandle" ∧ yX3_addJoined.cls ≠ "java/lang/invoke/VarHandle" ∧ (parseMethodDescriptor yX3_addJoined.desc).map (fun d => d.parameters.length) = some 3 := by decide +kernel
theorem mm_X3_addJoined : Cond.instanceMethod yX3_addJoined ∈ zW := zi 431 (by decide +kernel) rfl
theorem mv_X3_addJoined : Cond.selects yX3_addJoined.cls yX3_addJoined yX3_addJoined ∈ zW := zi 11 (by decide +kernel) rfl
set_option maxRecDepth 100000 in
theorem mc_X3_allWordsAsOne : Cond.code yX3_allWordsAsOne cX3_allWordsAsOne 4 (some .long) ∈ zW := zi 800 rfl rfl
theorem mi_X3_allWordsAsOne : Cond.initialized yX3_allWordsAsOne.cls ∈ zW := zi 62 (by decide +kernel) rfl
theorem mn_X3_allWordsAsOne : yX3_allWordsAsOne.cls ≠ "java/lang/invoke/MethodHandle" ∧ yX3_allWordsAsOne.cls ≠ "java/lang/invoke/VarHandle" ∧ (parseMethodDescriptor yX3_allWordsAsOne.desc).map (fun d => d.parameters.length) = some 0 := by decide +kernel
theorem mm_X3_allWordsAsOne : Cond.instanceMethod yX3_allWordsAsOne ∈ zW := zi 799 (by decide +kernel) rfl
theorem mv_X3_allWordsAsOne : Cond.selects yX3_allWordsAsOne.cls yX3_allWordsAsOne yX3_allWordsAsOne ∈ zW := zi 27 (by decide +kernel) rfl
set_option maxRecDepth 100000 in
theorem mc_X3_becomeChoices : Cond.code yX3_becomeChoices cX3_becomeChoices 6 none ∈ zW := zi 386 rfl rfl
theorem mi_X3_becomeChoices : Cond.initialized yX3_becomeChoices.cls ∈ zW := zi 62 (by decide +kernel) rfl
theorem mn_X3_becomeChoices : yX3_becomeChoices.cls ≠ "java/lang/invoke/MethodHandle" ∧ yX3_becomeChoices.cls ≠ "java/lang/invoke/VarHandle" ∧ (parseMethodDescriptor yX3_becomeChoices.desc).map (fun d => d.parameters.length) = some 2 := by decide +kernel
theorem mm_X3_becomeChoices : Cond.instanceMethod yX3_becomeChoices ∈ zW := zi 384 (by decide +kernel) rfl
theorem mv_X3_becomeChoices : Cond.selects yX3_becomeChoices.cls yX3_becomeChoices yX3_becomeChoices ∈ zW := zi 385 (by decide +kernel) rfl
set_option maxRecDepth 100000 in
theorem mc_X3_becomeJoined : Cond.code yX3_becomeJoined cX3_becomeJoined 10 none ∈ zW := zi 411 rfl rfl
theorem mi_X3_becomeJoined : Cond.initialized yX3_becomeJoined.cls ∈ zW := zi 62 (by decide +kernel) rfl
theorem mn_X3_becomeJoined : yX3_becomeJoined.cls ≠ "java/lang/invoke/MethodHandle" ∧ yX3_becomeJoined.cls ≠ "java/lang/invoke/VarHandle" ∧ (parseMethodDescriptor yX3_becomeJoined.desc).map (fun d => d.parameters.length) = some 2 := by decide +kernel
theorem mm_X3_becomeJoined : Cond.instanceMethod yX3_becomeJoined ∈ zW := zi 409 (by decide +kernel) rfl
theorem mv_X3_becomeJoined : Cond.selects yX3_becomeJoined.cls yX3_becomeJoined yX3_becomeJoined ∈ zW := zi 410 (by decide +kernel) rfl
set_option maxRecDepth 100000 in
theorem mc_X3_copyFrom : Cond.code yX3_copyFrom cX3_copyFrom 2 none ∈ zW := zi 444 rfl rfl
theorem mi_X3_copyFrom : Cond.initialized yX3_copyFrom.cls ∈ zW := zi 62 (by decide +kernel) rfl
theorem mn_X3_copyFrom : yX3_copyFrom.cls ≠ "java/lang/invoke/MethodHandle" ∧ yX3_copyFrom.cls ≠ "java/lang/invoke/VarHandle" ∧ (parseMethodDescriptor yX3_copyFrom.desc).map (fun d => d.parameters.length) = some 1 := by decide +kernel
theorem mm_X3_copyFrom : Cond.instanceMethod yX3_copyFrom ∈ zW := zi 442 (by decide +kernel) rfl
theorem mv_X3_copyFrom : Cond.selects yX3_copyFrom.cls yX3_copyFrom yX3_copyFrom ∈ zW := zi 443 (by decide +kernel) rfl
set_option maxRecDepth 100000 in
theorem mc_X3_keepCommon : Cond.code yX3_keepCommon cX3_keepCommon 3 none ∈ zW := zi 402 rfl rfl
theorem mi_X3_keepCommon : Cond.initialized yX3_keepCommon.cls ∈ zW := zi 62 (by decide +kernel) rfl
theorem mn_X3_keepCommon : yX3_keepCommon.cls ≠ "java/lang/invoke/MethodHandle" ∧ yX3_keepCommon.cls ≠ "java/lang/invoke/VarHandle" ∧ (parseMethodDescriptor yX3_keepCommon.desc).map (fun d => d.parameters.length) = some 1 := by decide +kernel
theorem mm_X3_keepCommon : Cond.instanceMethod yX3_keepCommon ∈ zW := zi 400 (by decide +kernel) rfl
theorem mv_X3_keepCommon : Cond.selects yX3_keepCommon.cls yX3_keepCommon yX3_keepCommon ∈ zW := zi 401 (by decide +kernel) rfl
set_option maxRecDepth 100000 in
theorem mc_X3_leastInJustOne : Cond.code yX3_leastInJustOne cX3_leastInJustOne 5 (some .int) ∈ zW := zi 525 rfl rfl
theorem mi_X3_leastInJustOne : Cond.initialized yX3_leastInJustOne.cls ∈ zW := zi 62 (by decide +kernel) rfl
theorem mn_X3_leastInJustOne : yX3_leastInJustOne.cls ≠ "java/lang/invoke/MethodHandle" ∧ yX3_leastInJustOne.cls ≠ "java/lang/invoke/VarHandle" ∧ (parseMethodDescriptor yX3_leastInJustOne.desc).map (fun d => d.parameters.length) = some 1 := by decide +kernel
theorem mm_X3_leastInJustOne : Cond.instanceMethod yX3_leastInJustOne ∈ zW := zi 523 (by decide +kernel) rfl
theorem mv_X3_leastInJustOne : Cond.selects yX3_leastInJustOne.cls yX3_leastInJustOne yX3_leastInJustOne ∈ zW := zi 524 (by decide +kernel) rfl
set_option maxRecDepth 100000 in
theorem mc_X3_matchesInAll : Cond.code yX3_matchesInAll cX3_matchesInAll 6 (some .int) ∈ zW := zi 804 rfl rfl
theorem mi_X3_matchesInAll : Cond.initialized yX3_matchesInAll.cls ∈ zW := zi 62 (by decide +kernel) rfl
theorem mn_X3_matchesInAll : yX3_matchesInAll.cls ≠ "java/lang/invoke/MethodHandle" ∧ yX3_matchesInAll.cls ≠ "java/lang/invoke/VarHandle" ∧ (parseMethodDescriptor yX3_matchesInAll.desc).map (fun d => d.parameters.length) = some 0 := by decide +kernel
theorem mm_X3_matchesInAll : Cond.instanceMethod yX3_matchesInAll ∈ zW := zi 802 (by decide +kernel) rfl
theorem mv_X3_matchesInAll : Cond.selects yX3_matchesInAll.cls yX3_matchesInAll yX3_matchesInAll ∈ zW := zi 803 (by decide +kernel) rfl
set_option maxRecDepth 100000 in
theorem mc_X3_matchesInSome : Cond.code yX3_matchesInSome cX3_matchesInSome 6 (some .int) ∈ zW := zi 796 rfl rfl
theorem mi_X3_matchesInSome : Cond.initialized yX3_matchesInSome.cls ∈ zW := zi 62 (by decide +kernel) rfl
theorem mn_X3_matchesInSome : yX3_matchesInSome.cls ≠ "java/lang/invoke/MethodHandle" ∧ yX3_matchesInSome.cls ≠ "java/lang/invoke/VarHandle" ∧ (parseMethodDescriptor yX3_matchesInSome.desc).map (fun d => d.parameters.length) = some 0 := by decide +kernel
theorem mm_X3_matchesInSome : Cond.instanceMethod yX3_matchesInSome ∈ zW := zi 794 (by decide +kernel) rfl
theorem mv_X3_matchesInSome : Cond.selects yX3_matchesInSome.cls yX3_matchesInSome yX3_matchesInSome ∈ zW := zi 795 (by decide +kernel) rfl
set_option maxRecDepth 100000 in
theorem mc_X3_numberAt : Cond.code yX3_numberAt cX3_numberAt 5 (some .int) ∈ zW := zi 503 rfl rfl
theorem mi_X3_numberAt : Cond.initialized yX3_numberAt.cls ∈ zW := zi 62 (by decide +kernel) rfl
theorem mn_X3_numberAt : yX3_numberAt.cls ≠ "java/lang/invoke/MethodHandle" ∧ yX3_numberAt.cls ≠ "java/lang/invoke/VarHandle" ∧ (parseMethodDescriptor yX3_numberAt.desc).map (fun d => d.parameters.length) = some 1 := by decide +kernel
theorem mm_X3_numberAt : Cond.instanceMethod yX3_numberAt ∈ zW := zi 501 (by decide +kernel) rfl
theorem mv_X3_numberAt : Cond.selects yX3_numberAt.cls yX3_numberAt yX3_numberAt ∈ zW := zi 502 (by decide +kernel) rfl
set_option maxRecDepth 100000 in
theorem mc_X3_placeOfBit : Cond.code yX3_placeOfBit cX3_placeOfBit 6 (some .int) ∈ zW := zi 506 rfl rfl
theorem mi_X3_placeOfBit : Cond.initialized yX3_placeOfBit.cls ∈ zW := zi 62 (by decide +kernel) rfl
theorem mn_X3_placeOfBit : yX3_placeOfBit.cls ≠ "java/lang/invoke/MethodHandle" ∧ yX3_placeOfBit.cls ≠ "java/lang/invoke/VarHandle" ∧ (parseMethodDescriptor yX3_placeOfBit.desc).map (fun d => d.parameters.length) = some 2 := by decide +kernel
theorem ms_X3_placeOfBit : Cond.static yX3_placeOfBit ∈ zW := zi 505 (by decide +kernel) rfl
set_option maxRecDepth 100000 in
theorem mc_X3_sizeOfAll : Cond.code yX3_sizeOfAll cX3_sizeOfAll 3 (some .int) ∈ zW := zi 415 rfl rfl
theorem mi_X3_sizeOfAll : Cond.initialized yX3_sizeOfAll.cls ∈ zW := zi 62 (by decide +kernel) rfl
theorem mn_X3_sizeOfAll : yX3_sizeOfAll.cls ≠ "java/lang/invoke/MethodHandle" ∧ yX3_sizeOfAll.cls ≠ "java/lang/invoke/VarHandle" ∧ (parseMethodDescriptor yX3_sizeOfAll.desc).map (fun d => d.parameters.length) = some 0 := by decide +kernel
theorem mm_X3_sizeOfAll : Cond.instanceMethod yX3_sizeOfAll ∈ zW := zi 413 (by decide +kernel) rfl
theorem mv_X3_sizeOfAll : Cond.selects yX3_sizeOfAll.cls yX3_sizeOfAll yX3_sizeOfAll ∈ zW := zi 414 (by decide +kernel) rfl
set_option maxRecDepth 100000 in
theorem mc_X3_sizeUnder : Cond.code yX3_sizeUnder cX3_sizeUnder 5 (some .int) ∈ zW := zi 514 rfl rfl
theorem mi_X3_sizeUnder : Cond.initialized yX3_sizeUnder.cls ∈ zW := zi 62 (by decide +kernel) rfl
theorem mn_X3_sizeUnder : yX3_sizeUnder.cls ≠ "java/lang/invoke/MethodHandle" ∧ yX3_sizeUnder.cls ≠ "java/lang/invoke/VarHandle" ∧ (parseMethodDescriptor yX3_sizeUnder.desc).map (fun d => d.parameters.length) = some 1 := by decide +kernel
theorem mm_X3_sizeUnder : Cond.instanceMethod yX3_sizeUnder ∈ zW := zi 512 (by decide +kernel) rfl
theorem mv_X3_sizeUnder : Cond.selects yX3_sizeUnder.cls yX3_sizeUnder yX3_sizeUnder ∈ zW := zi 513 (by decide +kernel) rfl
set_option maxRecDepth 100000 in
theorem mc_X3_takeAway : Cond.code yX3_takeAway cX3_takeAway 3 none ∈ zW := zi 406 rfl rfl
theorem mi_X3_takeAway : Cond.initialized yX3_takeAway.cls ∈ zW := zi 62 (by decide +kernel) rfl
theorem mn_X3_takeAway : yX3_takeAway.cls ≠ "java/lang/invoke/MethodHandle" ∧ yX3_takeAway.cls ≠ "java/lang/invoke/VarHandle" ∧ (parseMethodDescriptor yX3_takeAway.desc).map (fun d => d.parameters.length) = some 1 := by decide +kernel
theorem mm_X3_takeAway : Cond.instanceMethod yX3_takeAway ∈ zW := zi 404 (by decide +kernel) rfl
theorem mv_X3_takeAway : Cond.selects yX3_takeAway.cls yX3_takeAway yX3_takeAway ∈ zW := zi 405 (by decide +kernel) rfl
set_option maxRecDepth 100000 in
theorem mc_X3_wordWithout : Cond.code yX3_wordWithout cX3_wordWithout 4 (some .long) ∈ zW := zi 435 rfl rfl
theorem mi_X3_wordWithout : Cond.initialized yX3_wordWithout.cls ∈ zW := zi 62 (by decide +kernel) rfl
theorem mn_X3_wordWithout : yX3_wordWithout.cls ≠ "java/lang/invoke/MethodHandle" ∧ yX3_wordWithout.cls ≠ "java/lang/invoke/VarHandle" ∧ (parseMethodDescriptor yX3_wordWithout.desc).map (fun d => d.parameters.length) = some 1 := by decide +kernel
theorem ms_X3_wordWithout : Cond.static yX3_wordWithout ∈ zW := zi 434 (by decide +kernel) rfl
set_option maxRecDepth 100000 in
theorem mc_X4_init : Cond.code yX4_init cX4_init 2 none ∈ zW := zi 99 rfl rfl
theorem mi_X4_init : Cond.initialized yX4_init.cls ∈ zW := zi 55 (by decide +kernel) rfl
theorem mn_X4_init : yX4_init.cls ≠ "java/lang/invoke/MethodHandle" ∧ yX4_init.cls ≠ "java/lang/invoke/VarHandle" ∧ (parseMethodDescriptor yX4_init.desc).map (fun d => d.parameters.length) = some 1 := by decide +kernel
theorem mm_X4_init : Cond.instanceMethod yX4_init ∈ zW := zi 98 (by decide +kernel) rfl
set_option maxRecDepth 100000 in
theorem mc_X4_combineTopTwo : Cond.code yX4_combineTopTwo cX4_combineTopTwo 5 none ∈ zW := zi 394 rfl rfl
theorem mi_X4_combineTopTwo : Cond.initialized yX4_combineTopTwo.cls ∈ zW := zi 55 (by decide +kernel) rfl
theorem mn_X4_combineTopTwo : yX4_combineTopTwo.cls ≠ "java/lang/invoke/MethodHandle" ∧ yX4_combineTopTwo.cls ≠ "java/lang/invoke/VarHandle" ∧ (parseMethodDescriptor yX4_combineTopTwo.desc).map (fun d => d.parameters.length) = some 1 := by decide +kernel
theorem mm_X4_combineTopTwo : Cond.instanceMethod yX4_combineTopTwo ∈ zW := zi 393 (by decide +kernel) rfl
theorem mv_X4_combineTopTwo : Cond.selects yX4_combineTopTwo.cls yX4_combineTopTwo yX4_combineTopTwo ∈ zW := zi 10 (by decide +kernel) rfl
set_option maxRecDepth 100000 in
theorem mc_X4_digitsHere : Cond.code yX4_digitsHere cX4_digitsHere 1 (some .int) ∈ zW := zi 351 rfl rfl
theorem mi_X4_digitsHere : Cond.initialized yX4_digitsHere.cls ∈ zW := zi 55 (by decide +kernel) rfl
theorem mn_X4_digitsHere : yX4_digitsHere.cls ≠ "java/lang/invoke/MethodHandle" ∧ yX4_digitsHere.cls ≠ "java/lang/invoke/VarHandle" ∧ (parseMethodDescriptor yX4_digitsHere.desc).map (fun d => d.parameters.length) = some 0 := by decide +kernel
theorem mm_X4_digitsHere : Cond.instanceMethod yX4_digitsHere ∈ zW := zi 350 (by decide +kernel) rfl
theorem mv_X4_digitsHere : Cond.selects yX4_digitsHere.cls yX4_digitsHere yX4_digitsHere ∈ zW := zi 6 (by decide +kernel) rfl
set_option maxRecDepth 100000 in
theorem mc_X4_forgetFault : Cond.code yX4_forgetFault cX4_forgetFault 1 none ∈ zW := zi 315 rfl rfl
theorem mi_X4_forgetFault : Cond.initialized yX4_forgetFault.cls ∈ zW := zi 55 (by decide +kernel) rfl
theorem mn_X4_forgetFault : yX4_forgetFault.cls ≠ "java/lang/invoke/MethodHandle" ∧ yX4_forgetFault.cls ≠ "java/lang/invoke/VarHandle" ∧ (parseMethodDescriptor yX4_forgetFault.desc).map (fun d => d.parameters.length) = some 0 := by decide +kernel
theorem mm_X4_forgetFault : Cond.instanceMethod yX4_forgetFault ∈ zW := zi 313 (by decide +kernel) rfl
theorem mv_X4_forgetFault : Cond.selects yX4_forgetFault.cls yX4_forgetFault yX4_forgetFault ∈ zW := zi 314 (by decide +kernel) rfl
set_option maxRecDepth 100000 in
theorem mc_X4_isDigit : Cond.code yX4_isDigit cX4_isDigit 1 (some .boolean) ∈ zW := zi 354 rfl rfl
theorem mi_X4_isDigit : Cond.initialized yX4_isDigit.cls ∈ zW := zi 55 (by decide +kernel) rfl
theorem mn_X4_isDigit : yX4_isDigit.cls ≠ "java/lang/invoke/MethodHandle" ∧ yX4_isDigit.cls ≠ "java/lang/invoke/VarHandle" ∧ (parseMethodDescriptor yX4_isDigit.desc).map (fun d => d.parameters.length) = some 1 := by decide +kernel
theorem ms_X4_isDigit : Cond.static yX4_isDigit ∈ zW := zi 353 (by decide +kernel) rfl
set_option maxRecDepth 100000 in
theorem mc_X4_isSetSign : Cond.code yX4_isSetSign cX4_isSetSign 1 (some .boolean) ∈ zW := zi 440 rfl rfl
theorem mi_X4_isSetSign : Cond.initialized yX4_isSetSign.cls ∈ zW := zi 55 (by decide +kernel) rfl
theorem mn_X4_isSetSign : yX4_isSetSign.cls ≠ "java/lang/invoke/MethodHandle" ∧ yX4_isSetSign.cls ≠ "java/lang/invoke/VarHandle" ∧ (parseMethodDescriptor yX4_isSetSign.desc).map (fun d => d.parameters.length) = some 1 := by decide +kernel
theorem ms_X4_isSetSign : Cond.static yX4_isSetSign ∈ zW := zi 439 (by decide +kernel) rfl
set_option maxRecDepth 100000 in
theorem mc_X4_pushChoices : Cond.code yX4_pushChoices cX4_pushChoices 4 none ∈ zW := zi 372 rfl rfl
theorem mi_X4_pushChoices : Cond.initialized yX4_pushChoices.cls ∈ zW := zi 55 (by decide +kernel) rfl
theorem mn_X4_pushChoices : yX4_pushChoices.cls ≠ "java/lang/invoke/MethodHandle" ∧ yX4_pushChoices.cls ≠ "java/lang/invoke/VarHandle" ∧ (parseMethodDescriptor yX4_pushChoices.desc).map (fun d => d.parameters.length) = some 2 := by decide +kernel
theorem mm_X4_pushChoices : Cond.instanceMethod yX4_pushChoices ∈ zW := zi 371 (by decide +kernel) rfl
theorem mv_X4_pushChoices : Cond.selects yX4_pushChoices.cls yX4_pushChoices yX4_pushChoices ∈ zW := zi 9 (by decide +kernel) rfl
set_option maxRecDepth 100000 in
theorem mc_X4_readAlternative : Cond.code yX4_readAlternative cX4_readAlternative 3 (some .boolean) ∈ zW := zi 327 rfl rfl
theorem mi_X4_readAlternative : Cond.initialized yX4_readAlternative.cls ∈ zW := zi 55 (by decide +kernel) rfl
theorem mn_X4_readAlternative : yX4_readAlternative.cls ≠ "java/lang/invoke/MethodHandle" ∧ yX4_readAlternative.cls ≠ "java/lang/invoke/VarHandle" ∧ (parseMethodDescriptor yX4_readAlternative.desc).map (fun d => d.parameters.length) = some 1 := by decide +kernel
theorem mm_X4_readAlternative : Cond.instanceMethod yX4_readAlternative ∈ zW := zi 326 (by decide +kernel) rfl
theorem mv_X4_readAlternative : Cond.selects yX4_readAlternative.cls yX4_readAlternative yX4_readAlternative ∈ zW := zi 1 (by decide +kernel) rfl
set_option maxRecDepth 100000 in
theorem mc_X4_readChoices : Cond.code yX4_readChoices cX4_readChoices 6 (some .boolean) ∈ zW := zi 347 rfl rfl
theorem mi_X4_readChoices : Cond.initialized yX4_readChoices.cls ∈ zW := zi 55 (by decide +kernel) rfl
theorem mn_X4_readChoices : yX4_readChoices.cls ≠ "java/lang/invoke/MethodHandle" ∧ yX4_readChoices.cls ≠ "java/lang/invoke/VarHandle" ∧ (parseMethodDescriptor yX4_readChoices.desc).map (fun d => d.parameters.length) = some 0 := by decide +kernel
theorem mm_X4_readChoices : Cond.instanceMethod yX4_readChoices ∈ zW := zi 346 (by decide +kernel) rfl
theorem mv_X4_readChoices : Cond.selects yX4_readChoices.cls yX4_readChoices yX4_readChoices ∈ zW := zi 5 (by decide +kernel) rfl
set_option maxRecDepth 100000 in
theorem mc_X4_readInBrackets : Cond.code yX4_readInBrackets cX4_readInBrackets 2 (some .boolean) ∈ zW := zi 339 rfl rfl
theorem mi_X4_readInBrackets : Cond.initialized yX4_readInBrackets.cls ∈ zW := zi 55 (by decide +kernel) rfl
theorem mn_X4_readInBrackets : yX4_readInBrackets.cls ≠ "java/lang/invoke/MethodHandle" ∧ yX4_readInBrackets.cls ≠ "java/lang/invoke/VarHandle" ∧ (parseMethodDescriptor yX4_readInBrackets.desc).map (fun d => d.parameters.length) = some 1 := by decide +kernel
theorem mm_X4_readInBrackets : Cond.instanceMethod yX4_readInBrackets ∈ zW := zi 338 (by decide +kernel) rfl
theorem mv_X4_readInBrackets : Cond.selects yX4_readInBrackets.cls yX4_readInBrackets yX4_readInBrackets ∈ zW := zi 3 (by decide +kernel) rfl
set_option maxRecDepth 100000 in
theorem mc_X4_readMatches : Cond.code yX4_readMatches cX4_readMatches 5 (some .int) ∈ zW := zi 362 rfl rfl
theorem mi_X4_readMatches : Cond.initialized yX4_readMatches.cls ∈ zW := zi 55 (by decide +kernel) rfl
theorem mn_X4_readMatches : yX4_readMatches.cls ≠ "java/lang/invoke/MethodHandle" ∧ yX4_readMatches.cls ≠ "java/lang/invoke/VarHandle" ∧ (parseMethodDescriptor yX4_readMatches.desc).map (fun d => d.parameters.length) = some 0 := by decide +kernel
theorem mm_X4_readMatches : Cond.instanceMethod yX4_readMatches ∈ zW := zi 361 (by decide +kernel) rfl
theorem mv_X4_readMatches : Cond.selects yX4_readMatches.cls yX4_readMatches yX4_readMatches ∈ zW := zi 8 (by decide +kernel) rfl
set_option maxRecDepth 100000 in
theorem mc_X4_readNumber : Cond.code yX4_readNumber cX4_readNumber 4 (some .int) ∈ zW := zi 358 rfl rfl
theorem mi_X4_readNumber : Cond.initialized yX4_readNumber.cls ∈ zW := zi 55 (by decide +kernel) rfl
theorem mn_X4_readNumber : yX4_readNumber.cls ≠ "java/lang/invoke/MethodHandle" ∧ yX4_readNumber.cls ≠ "java/lang/invoke/VarHandle" ∧ (parseMethodDescriptor yX4_readNumber.desc).map (fun d => d.parameters.length) = some 0 := by decide +kernel
theorem mm_X4_readNumber : Cond.instanceMethod yX4_readNumber ∈ zW := zi 357 (by decide +kernel) rfl
theorem mv_X4_readNumber : Cond.selects yX4_readNumber.cls yX4_readNumber yX4_readNumber ∈ zW := zi 7 (by decide +kernel) rfl
set_option maxRecDepth 100000 in
theorem mc_X4_readPart : Cond.code yX4_readPart cX4_readPart 2 (some .boolean) ∈ zW := zi 331 rfl rfl
theorem mi_X4_readPart : Cond.initialized yX4_readPart.cls ∈ zW := zi 55 (by decide +kernel) rfl
theorem mn_X4_readPart : yX4_readPart.cls ≠ "java/lang/invoke/MethodHandle" ∧ yX4_readPart.cls ≠ "java/lang/invoke/VarHandle" ∧ (parseMethodDescriptor yX4_readPart.desc).map (fun d => d.parameters.length) = some 1 := by decide +kernel
theorem mm_X4_readPart : Cond.instanceMethod yX4_readPart ∈ zW := zi 330 (by decide +kernel) rfl
theorem mv_X4_readPart : Cond.selects yX4_readPart.cls yX4_readPart yX4_readPart ∈ zW := zi 2 (by decide +kernel) rfl
set_option maxRecDepth 100000 in
theorem mc_X4_readPlan : Cond.code yX4_readPlan cX4_readPlan 4 (some .boolean) ∈ zW := zi 323 rfl rfl
theorem mi_X4_readPlan : Cond.initialized yX4_readPlan.cls ∈ zW := zi 55 (by decide +kernel) rfl
theorem mn_X4_readPlan : yX4_readPlan.cls ≠ "java/lang/invoke/MethodHandle" ∧ yX4_readPlan.cls ≠ "java/lang/invoke/VarHandle" ∧ (parseMethodDescriptor yX4_readPlan.desc).map (fun d => d.parameters.length) = some 1 := by decide +kernel
theorem mm_X4_readPlan : Cond.instanceMethod yX4_readPlan ∈ zW := zi 322 (by decide +kernel) rfl
theorem mv_X4_readPlan : Cond.selects yX4_readPlan.cls yX4_readPlan yX4_readPlan ∈ zW := zi 0 (by decide +kernel) rfl
set_option maxRecDepth 100000 in
theorem mc_X4_readTape : Cond.code yX4_readTape cX4_readTape 2 (some (.object "PoolsHall$LineSet")) ∈ zW := zi 319 rfl rfl
theorem mi_X4_readTape : Cond.initialized yX4_readTape.cls ∈ zW := zi 55 (by decide +kernel) rfl
theorem mn_X4_readTape : yX4_readTape.cls ≠ "java/lang/invoke/MethodHandle" ∧ yX4_readTape.cls ≠ "java/lang/invoke/VarHandle" ∧ (parseMethodDescriptor yX4_readTape.desc).map (fun d => d.parameters.length) = some 0 := by decide +kernel
theorem mm_X4_readTape : Cond.instanceMethod yX4_readTape ∈ zW := zi 317 (by decide +kernel) rfl
theorem mv_X4_readTape : Cond.selects yX4_readTape.cls yX4_readTape yX4_readTape ∈ zW := zi 318 (by decide +kernel) rfl
set_option maxRecDepth 100000 in
theorem mc_X4_stopAt : Cond.code yX4_stopAt cX4_stopAt 3 (some .boolean) ∈ zW := zi 343 rfl rfl
theorem mi_X4_stopAt : Cond.initialized yX4_stopAt.cls ∈ zW := zi 55 (by decide +kernel) rfl
theorem mn_X4_stopAt : yX4_stopAt.cls ≠ "java/lang/invoke/MethodHandle" ∧ yX4_stopAt.cls ≠ "java/lang/invoke/VarHandle" ∧ (parseMethodDescriptor yX4_stopAt.desc).map (fun d => d.parameters.length) = some 2 := by decide +kernel
theorem mm_X4_stopAt : Cond.instanceMethod yX4_stopAt ∈ zW := zi 342 (by decide +kernel) rfl
theorem mv_X4_stopAt : Cond.selects yX4_stopAt.cls yX4_stopAt yX4_stopAt ∈ zW := zi 4 (by decide +kernel) rfl
set_option maxRecDepth 100000 in
theorem mc_X5_init : Cond.code yX5_init cX5_init 1 none ∈ zW := zi 131 rfl rfl
theorem mi_X5_init : Cond.initialized yX5_init.cls ∈ zW := zi 56 (by decide +kernel) rfl
theorem mn_X5_init : yX5_init.cls ≠ "java/lang/invoke/MethodHandle" ∧ yX5_init.cls ≠ "java/lang/invoke/VarHandle" ∧ (parseMethodDescriptor yX5_init.desc).map (fun d => d.parameters.length) = some 0 := by decide +kernel
theorem mm_X5_init : Cond.instanceMethod yX5_init ∈ zW := zi 130 (by decide +kernel) rfl
set_option maxRecDepth 100000 in
theorem mc_X5_bitsFrom : Cond.code yX5_bitsFrom cX5_bitsFrom 2 (some .long) ∈ zW := zi 556 rfl rfl
theorem mi_X5_bitsFrom : Cond.initialized yX5_bitsFrom.cls ∈ zW := zi 56 (by decide +kernel) rfl
theorem mn_X5_bitsFrom : yX5_bitsFrom.cls ≠ "java/lang/invoke/MethodHandle" ∧ yX5_bitsFrom.cls ≠ "java/lang/invoke/VarHandle" ∧ (parseMethodDescriptor yX5_bitsFrom.desc).map (fun d => d.parameters.length) = some 1 := by decide +kernel
theorem mm_X5_bitsFrom : Cond.instanceMethod yX5_bitsFrom ∈ zW := zi 555 (by decide +kernel) rfl
theorem mv_X5_bitsFrom : Cond.selects yX5_bitsFrom.cls yX5_bitsFrom yX5_bitsFrom ∈ zW := zi 15 (by decide +kernel) rfl
set_option maxRecDepth 100000 in
theorem mc_X5_fillLowFrom : Cond.code yX5_fillLowFrom cX5_fillLowFrom 3 none ∈ zW := zi 546 rfl rfl
theorem mi_X5_fillLowFrom : Cond.initialized yX5_fillLowFrom.cls ∈ zW := zi 56 (by decide +kernel) rfl
theorem mn_X5_fillLowFrom : yX5_fillLowFrom.cls ≠ "java/lang/invoke/MethodHandle" ∧ yX5_fillLowFrom.cls ≠ "java/lang/invoke/VarHandle" ∧ (parseMethodDescriptor yX5_fillLowFrom.desc).map (fun d => d.parameters.length) = some 0 := by decide +kernel
theorem mm_X5_fillLowFrom : Cond.instanceMethod yX5_fillLowFrom ∈ zW := zi 545 (by decide +kernel) rfl
theorem mv_X5_fillLowFrom : Cond.selects yX5_fillLowFrom.cls yX5_fillLowFrom yX5_fillLowFrom ∈ zW := zi 14 (by decide +kernel) rfl
set_option maxRecDepth 100000 in
theorem mc_X5_fillSums : Cond.code yX5_fillSums cX5_fillSums 5 none ∈ zW := zi 541 rfl rfl
theorem mi_X5_fillSums : Cond.initialized yX5_fillSums.cls ∈ zW := zi 56 (by decide +kernel) rfl
theorem mn_X5_fillSums : yX5_fillSums.cls ≠ "java/lang/invoke/MethodHandle" ∧ yX5_fillSums.cls ≠ "java/lang/invoke/VarHandle" ∧ (parseMethodDescriptor yX5_fillSums.desc).map (fun d => d.parameters.length) = some 2 := by decide +kernel
theorem mm_X5_fillSums : Cond.instanceMethod yX5_fillSums ∈ zW := zi 540 (by decide +kernel) rfl
theorem mv_X5_fillSums : Cond.selects yX5_fillSums.cls yX5_fillSums yX5_fillSums ∈ zW := zi 13 (by decide +kernel) rfl
set_option maxRecDepth 100000 in
theorem mc_X5_greatest : Cond.code yX5_greatest cX5_greatest 5 (some .int) ∈ zW := zi 570 rfl rfl
theorem mi_X5_greatest : Cond.initialized yX5_greatest.cls ∈ zW := zi 56 (by decide +kernel) rfl
theorem mn_X5_greatest : yX5_greatest.cls ≠ "java/lang/invoke/MethodHandle" ∧ yX5_greatest.cls ≠ "java/lang/invoke/VarHandle" ∧ (parseMethodDescriptor yX5_greatest.desc).map (fun d => d.parameters.length) = some 1 := by decide +kernel
theorem mm_X5_greatest : Cond.instanceMethod yX5_greatest ∈ zW := zi 568 (by decide +kernel) rfl
theorem mv_X5_greatest : Cond.selects yX5_greatest.cls yX5_greatest yX5_greatest ∈ zW := zi 569 (by decide +kernel) rfl
set_option maxRecDepth 100000 in
theorem mc_X5_greatestLow : Cond.code yX5_greatestLow cX5_greatestLow 4 (some .int) ∈ zW := zi 574 rfl rfl
theorem mi_X5_greatestLow : Cond.initialized yX5_greatestLow.cls ∈ zW := zi 56 (by decide +kernel) rfl
theorem mn_X5_greatestLow : yX5_greatestLow.cls ≠ "java/lang/invoke/MethodHandle" ∧ yX5_greatestLow.cls ≠ "java/lang/invoke/VarHandle" ∧ (parseMethodDescriptor yX5_greatestLow.desc).map (fun d => d.parameters.length) = some 1 := by decide +kernel
theorem mm_X5_greatestLow : Cond.instanceMethod yX5_greatestLow ∈ zW := zi 573 (by decide +kernel) rfl
theorem mv_X5_greatestLow : Cond.selects yX5_greatestLow.cls yX5_greatestLow yX5_greatestLow ∈ zW := zi 17 (by decide +kernel) rfl
set_option maxRecDepth 100000 in
theorem mc_X5_sizeFrom : Cond.code yX5_sizeFrom cX5_sizeFrom 5 (some .int) ∈ zW := zi 551 rfl rfl
theorem mi_X5_sizeFrom : Cond.initialized yX5_sizeFrom.cls ∈ zW := zi 56 (by decide +kernel) rfl
theorem mn_X5_sizeFrom : yX5_sizeFrom.cls ≠ "java/lang/invoke/MethodHandle" ∧ yX5_sizeFrom.cls ≠ "java/lang/invoke/VarHandle" ∧ (parseMethodDescriptor yX5_sizeFrom.desc).map (fun d => d.parameters.length) = some 2 := by decide +kernel
theorem mm_X5_sizeFrom : Cond.instanceMethod yX5_sizeFrom ∈ zW := zi 549 (by decide +kernel) rfl
theorem mv_X5_sizeFrom : Cond.selects yX5_sizeFrom.cls yX5_sizeFrom yX5_sizeFrom ∈ zW := zi 550 (by decide +kernel) rfl
set_option maxRecDepth 100000 in
theorem mc_X5_weigh : Cond.code yX5_weigh cX5_weigh 6 none ∈ zW := zi 537 rfl rfl
theorem mi_X5_weigh : Cond.initialized yX5_weigh.cls ∈ zW := zi 56 (by decide +kernel) rfl
theorem mn_X5_weigh : yX5_weigh.cls ≠ "java/lang/invoke/MethodHandle" ∧ yX5_weigh.cls ≠ "java/lang/invoke/VarHandle" ∧ (parseMethodDescriptor yX5_weigh.desc).map (fun d => d.parameters.length) = some 3 := by decide +kernel
theorem mm_X5_weigh : Cond.instanceMethod yX5_weigh ∈ zW := zi 535 (by decide +kernel) rfl
theorem mv_X5_weigh : Cond.selects yX5_weigh.cls yX5_weigh yX5_weigh ∈ zW := zi 536 (by decide +kernel) rfl
set_option maxRecDepth 100000 in
theorem mc_X6_init : Cond.code yX6_init cX6_init 1 none ∈ zW := zi 83 rfl rfl
theorem mi_X6_init : Cond.initialized yX6_init.cls ∈ zW := zi 54 (by decide +kernel) rfl
theorem mn_X6_init : yX6_init.cls ≠ "java/lang/invoke/MethodHandle" ∧ yX6_init.cls ≠ "java/lang/invoke/VarHandle" ∧ (parseMethodDescriptor yX6_init.desc).map (fun d => d.parameters.length) = some 0 := by decide +kernel
theorem mm_X6_init : Cond.instanceMethod yX6_init ∈ zW := zi 82 (by decide +kernel) rfl
set_option maxRecDepth 100000 in
theorem mc_X6_append : Cond.code yX6_append cX6_append 3 none ∈ zW := zi 299 rfl rfl
theorem mi_X6_append : Cond.initialized yX6_append.cls ∈ zW := zi 54 (by decide +kernel) rfl
theorem mn_X6_append : yX6_append.cls ≠ "java/lang/invoke/MethodHandle" ∧ yX6_append.cls ≠ "java/lang/invoke/VarHandle" ∧ (parseMethodDescriptor yX6_append.desc).map (fun d => d.parameters.length) = some 1 := by decide +kernel
theorem mm_X6_append : Cond.instanceMethod yX6_append ∈ zW := zi 297 (by decide +kernel) rfl
theorem mv_X6_append : Cond.selects yX6_append.cls yX6_append yX6_append ∈ zW := zi 298 (by decide +kernel) rfl
set_option maxRecDepth 100000 in
theorem mc_X6_byteAt : Cond.code yX6_byteAt cX6_byteAt 2 (some .int) ∈ zW := zi 335 rfl rfl
theorem mi_X6_byteAt : Cond.initialized yX6_byteAt.cls ∈ zW := zi 54 (by decide +kernel) rfl
theorem mn_X6_byteAt : yX6_byteAt.cls ≠ "java/lang/invoke/MethodHandle" ∧ yX6_byteAt.cls ≠ "java/lang/invoke/VarHandle" ∧ (parseMethodDescriptor yX6_byteAt.desc).map (fun d => d.parameters.length) = some 1 := by decide +kernel
theorem mm_X6_byteAt : Cond.instanceMethod yX6_byteAt ∈ zW := zi 333 (by decide +kernel) rfl
theorem mv_X6_byteAt : Cond.selects yX6_byteAt.cls yX6_byteAt yX6_byteAt ∈ zW := zi 334 (by decide +kernel) rfl
set_option maxRecDepth 100000 in
theorem mc_X6_cutTo : Cond.code yX6_cutTo cX6_cutTo 2 (some .boolean) ∈ zW := zi 307 rfl rfl
theorem mi_X6_cutTo : Cond.initialized yX6_cutTo.cls ∈ zW := zi 54 (by decide +kernel) rfl
theorem mn_X6_cutTo : yX6_cutTo.cls ≠ "java/lang/invoke/MethodHandle" ∧ yX6_cutTo.cls ≠ "java/lang/invoke/VarHandle" ∧ (parseMethodDescriptor yX6_cutTo.desc).map (fun d => d.parameters.length) = some 1 := by decide +kernel
theorem mm_X6_cutTo : Cond.instanceMethod yX6_cutTo ∈ zW := zi 305 (by decide +kernel) rfl
theorem mv_X6_cutTo : Cond.selects yX6_cutTo.cls yX6_cutTo yX6_cutTo ∈ zW := zi 306 (by decide +kernel) rfl
set_option maxRecDepth 100000 in
theorem mc_X6_hasRoomForFive : Cond.code yX6_hasRoomForFive cX6_hasRoomForFive 1 (some .boolean) ∈ zW := zi 295 rfl rfl
theorem mi_X6_hasRoomForFive : Cond.initialized yX6_hasRoomForFive.cls ∈ zW := zi 54 (by decide +kernel) rfl
theorem mn_X6_hasRoomForFive : yX6_hasRoomForFive.cls ≠ "java/lang/invoke/MethodHandle" ∧ yX6_hasRoomForFive.cls ≠ "java/lang/invoke/VarHandle" ∧ (parseMethodDescriptor yX6_hasRoomForFive.desc).map (fun d => d.parameters.length) = some 0 := by decide +kernel
theorem mm_X6_hasRoomForFive : Cond.instanceMethod yX6_hasRoomForFive ∈ zW := zi 293 (by decide +kernel) rfl
theorem mv_X6_hasRoomForFive : Cond.selects yX6_hasRoomForFive.cls yX6_hasRoomForFive yX6_hasRoomForFive ∈ zW := zi 294 (by decide +kernel) rfl
set_option maxRecDepth 100000 in
theorem mc_X8_init : Cond.code yX8_init cX8_init 2 none ∈ zW := zi 810 rfl rfl
theorem mi_X8_init : Cond.initialized yX8_init.cls ∈ zW := zi 60 (by decide +kernel) rfl
theorem mn_X8_init : yX8_init.cls ≠ "java/lang/invoke/MethodHandle" ∧ yX8_init.cls ≠ "java/lang/invoke/VarHandle" ∧ (parseMethodDescriptor yX8_init.desc).map (fun d => d.parameters.length) = some 0 := by decide +kernel
theorem mm_X8_init : Cond.instanceMethod yX8_init ∈ zW := zi 809 (by decide +kernel) rfl
set_option maxRecDepth 100000 in
theorem mc_X8_below : Cond.code yX8_below cX8_below 3 (some .int) ∈ zW := zi 1073 rfl rfl
theorem mi_X8_below : Cond.initialized yX8_below.cls ∈ zW := zi 60 (by decide +kernel) rfl
theorem mn_X8_below : yX8_below.cls ≠ "java/lang/invoke/MethodHandle" ∧ yX8_below.cls ≠ "java/lang/invoke/VarHandle" ∧ (parseMethodDescriptor yX8_below.desc).map (fun d => d.parameters.length) = some 2 := by decide +kernel
theorem mm_X8_below : Cond.instanceMethod yX8_below ∈ zW := zi 1071 (by decide +kernel) rfl
theorem mv_X8_below : Cond.selects yX8_below.cls yX8_below yX8_below ∈ zW := zi 1072 (by decide +kernel) rfl
set_option maxRecDepth 100000 in
theorem mc_X8_below0 : Cond.code yX8_below0 cX8_below0 5 (some .int) ∈ zW := zi 1061 rfl rfl
theorem mi_X8_below0 : Cond.initialized yX8_below0.cls ∈ zW := zi 60 (by decide +kernel) rfl
theorem mn_X8_below0 : yX8_below0.cls ≠ "java/lang/invoke/MethodHandle" ∧ yX8_below0.cls ≠ "java/lang/invoke/VarHandle" ∧ (parseMethodDescriptor yX8_below0.desc).map (fun d => d.parameters.length) = some 2 := by decide +kernel
theorem mm_X8_below0 : Cond.instanceMethod yX8_below0 ∈ zW := zi 1060 (by decide +kernel) rfl
theorem mv_X8_below0 : Cond.selects yX8_below0.cls yX8_below0 yX8_below0 ∈ zW := zi 42 (by decide +kernel) rfl
set_option maxRecDepth 100000 in
theorem mc_X8_best : Cond.code yX8_best cX8_best 2 (some .int) ∈ zW := zi 1094 rfl rfl
theorem mi_X8_best : Cond.initialized yX8_best.cls ∈ zW := zi 60 (by decide +kernel) rfl
theorem mn_X8_best : yX8_best.cls ≠ "java/lang/invoke/MethodHandle" ∧ yX8_best.cls ≠ "java/lang/invoke/VarHandle" ∧ (parseMethodDescriptor yX8_best.desc).map (fun d => d.parameters.length) = some 1 := by decide +kernel
theorem mm_X8_best : Cond.instanceMethod yX8_best ∈ zW := zi 1092 (by decide +kernel) rfl
theorem mv_X8_best : Cond.selects yX8_best.cls yX8_best yX8_best ∈ zW := zi 1093 (by decide +kernel) rfl
set_option maxRecDepth 100000 in
theorem mc_X8_between : Cond.code yX8_between cX8_between 9 (some .int) ∈ zW := zi 1086 rfl rfl
theorem mi_X8_between : Cond.initialized yX8_between.cls ∈ zW := zi 60 (by decide +kernel) rfl
theorem mn_X8_between : yX8_between.cls ≠ "java/lang/invoke/MethodHandle" ∧ yX8_between.cls ≠ "java/lang/invoke/VarHandle" ∧ (parseMethodDescriptor yX8_between.desc).map (fun d => d.parameters.length) = some 4 := by decide +kernel
theorem mm_X8_between : Cond.instanceMethod yX8_between ∈ zW := zi 1085 (by decide +kernel) rfl
theorem mv_X8_between : Cond.selects yX8_between.cls yX8_between yX8_between ∈ zW := zi 44 (by decide +kernel) rfl
set_option maxRecDepth 100000 in
theorem mc_X8_carried : Cond.code yX8_carried cX8_carried 4 (some .long) ∈ zW := zi 1137 rfl rfl
theorem mi_X8_carried : Cond.initialized yX8_carried.cls ∈ zW := zi 60 (by decide +kernel) rfl
theorem mn_X8_carried : yX8_carried.cls ≠ "java/lang/invoke/MethodHandle" ∧ yX8_carried.cls ≠ "java/lang/invoke/VarHandle" ∧ (parseMethodDescriptor yX8_carried.desc).map (fun d => d.parameters.length) = some 0 := by decide +kernel
theorem mm_X8_carried : Cond.instanceMethod yX8_carried ∈ zW := zi 1136 (by decide +kernel) rfl
theorem mv_X8_carried : Cond.selects yX8_carried.cls yX8_carried yX8_carried ∈ zW := zi 49 (by decide +kernel) rfl
set_option maxRecDepth 100000 in
theorem mc_X8_copy : Cond.code yX8_copy cX8_copy 3 none ∈ zW := zi 1148 rfl rfl
theorem mi_X8_copy : Cond.initialized yX8_copy.cls ∈ zW := zi 60 (by decide +kernel) rfl
theorem mn_X8_copy : yX8_copy.cls ≠ "java/lang/invoke/MethodHandle" ∧ yX8_copy.cls ≠ "java/lang/invoke/VarHandle" ∧ (parseMethodDescriptor yX8_copy.desc).map (fun d => d.parameters.length) = some 2 := by decide +kernel
theorem ms_X8_copy : Cond.static yX8_copy ∈ zW := zi 1147 (by decide +kernel) rfl
set_option maxRecDepth 100000 in
theorem mc_X8_copy_ : Cond.code yX8_copy_ cX8_copy_ 3 none ∈ zW := zi 1151 rfl rfl
theorem mi_X8_copy_ : Cond.initialized yX8_copy_.cls ∈ zW := zi 60 (by decide +kernel) rfl
theorem mn_X8_copy_ : yX8_copy_.cls ≠ "java/lang/invoke/MethodHandle" ∧ yX8_copy_.cls ≠ "java/lang/invoke/VarHandle" ∧ (parseMethodDescriptor yX8_copy_.desc).map (fun d => d.parameters.length) = some 2 := by decide +kernel
theorem ms_X8_copy_ : Cond.static yX8_copy_ ∈ zW := zi 1150 (by decide +kernel) rfl
set_option maxRecDepth 100000 in
theorem mc_X8_could : Cond.code yX8_could cX8_could 3 (some .int) ∈ zW := zi 1110 rfl rfl
theorem mi_X8_could : Cond.initialized yX8_could.cls ∈ zW := zi 60 (by decide +kernel) rfl
theorem mn_X8_could : yX8_could.cls ≠ "java/lang/invoke/MethodHandle" ∧ yX8_could.cls ≠ "java/lang/invoke/VarHandle" ∧ (parseMethodDescriptor yX8_could.desc).map (fun d => d.parameters.length) = some 2 := by decide +kernel
theorem mm_X8_could : Cond.instanceMethod yX8_could ∈ zW := zi 1108 (by decide +kernel) rfl
theorem mv_X8_could : Cond.selects yX8_could.cls yX8_could yX8_could ∈ zW := zi 1109 (by decide +kernel) rfl
set_option maxRecDepth 100000 in
theorem mc_X8_count_ : Cond.code yX8_count_ cX8_count_ 5 (some .long) ∈ zW := zi 1159 rfl rfl
theorem mi_X8_count_ : Cond.initialized yX8_count_.cls ∈ zW := zi 60 (by decide +kernel) rfl
theorem mn_X8_count_ : yX8_count_.cls ≠ "java/lang/invoke/MethodHandle" ∧ yX8_count_.cls ≠ "java/lang/invoke/VarHandle" ∧ (parseMethodDescriptor yX8_count_.desc).map (fun d => d.parameters.length) = some 1 := by decide +kernel
theorem mm_X8_count_ : Cond.instanceMethod yX8_count_ ∈ zW := zi 1157 (by decide +kernel) rfl
theorem mv_X8_count_ : Cond.selects yX8_count_.cls yX8_count_ yX8_count_ ∈ zW := zi 1158 (by decide +kernel) rfl
set_option maxRecDepth 100000 in
theorem mc_X8_count : Cond.code yX8_count cX8_count 5 (some .int) ∈ zW := zi 1036 rfl rfl
theorem mi_X8_count : Cond.initialized yX8_count.cls ∈ zW := zi 60 (by decide +kernel) rfl
theorem mn_X8_count : yX8_count.cls ≠ "java/lang/invoke/MethodHandle" ∧ yX8_count.cls ≠ "java/lang/invoke/VarHandle" ∧ (parseMethodDescriptor yX8_count.desc).map (fun d => d.parameters.length) = some 2 := by decide +kernel
theorem mm_X8_count : Cond.instanceMethod yX8_count ∈ zW := zi 1035 (by decide +kernel) rfl
theorem mv_X8_count : Cond.selects yX8_count.cls yX8_count yX8_count ∈ zW := zi 39 (by decide +kernel) rfl
set_option maxRecDepth 100000 in
theorem mc_X8_coupon : Cond.code yX8_coupon cX8_coupon 5 (some .int) ∈ zW := zi 994 rfl rfl
theorem mi_X8_coupon : Cond.initialized yX8_coupon.cls ∈ zW := zi 60 (by decide +kernel) rfl
theorem mn_X8_coupon : yX8_coupon.cls ≠ "java/lang/invoke/MethodHandle" ∧ yX8_coupon.cls ≠ "java/lang/invoke/VarHandle" ∧ (parseMethodDescriptor yX8_coupon.desc).map (fun d => d.parameters.length) = some 2 := by decide +kernel
theorem mm_X8_coupon : Cond.instanceMethod yX8_coupon ∈ zW := zi 992 (by decide +kernel) rfl
theorem mv_X8_coupon : Cond.selects yX8_coupon.cls yX8_coupon yX8_coupon ∈ zW := zi 993 (by decide +kernel) rfl
set_option maxRecDepth 100000 in
theorem mc_X8_divided : Cond.code yX8_divided cX8_divided 3 (some .long) ∈ zW := zi 1163 rfl rfl
theorem mi_X8_divided : Cond.initialized yX8_divided.cls ∈ zW := zi 60 (by decide +kernel) rfl
theorem mn_X8_divided : yX8_divided.cls ≠ "java/lang/invoke/MethodHandle" ∧ yX8_divided.cls ≠ "java/lang/invoke/VarHandle" ∧ (parseMethodDescriptor yX8_divided.desc).map (fun d => d.parameters.length) = some 2 := by decide +kernel
theorem mm_X8_divided : Cond.instanceMethod yX8_divided ∈ zW := zi 1161 (by decide +kernel) rfl
theorem mv_X8_divided : Cond.selects yX8_divided.cls yX8_divided yX8_divided ∈ zW := zi 1162 (by decide +kernel) rfl
set_option maxRecDepth 100000 in
theorem mc_X8_dividend : Cond.code yX8_dividend cX8_dividend 7 (some .int) ∈ zW := zi 1127 rfl rfl
theorem mi_X8_dividend : Cond.initialized yX8_dividend.cls ∈ zW := zi 60 (by decide +kernel) rfl
theorem mn_X8_dividend : yX8_dividend.cls ≠ "java/lang/invoke/MethodHandle" ∧ yX8_dividend.cls ≠ "java/lang/invoke/VarHandle" ∧ (parseMethodDescriptor yX8_dividend.desc).map (fun d => d.parameters.length) = some 3 := by decide +kernel
theorem mm_X8_dividend : Cond.instanceMethod yX8_dividend ∈ zW := zi 1125 (by decide +kernel) rfl
theorem mv_X8_dividend : Cond.selects yX8_dividend.cls yX8_dividend yX8_dividend ∈ zW := zi 1126 (by decide +kernel) rfl
set_option maxRecDepth 100000 in
theorem mc_X8_end : Cond.code yX8_end cX8_end 2 (some .boolean) ∈ zW := zi 990 rfl rfl
theorem mi_X8_end : Cond.initialized yX8_end.cls ∈ zW := zi 60 (by decide +kernel) rfl
theorem mn_X8_end : yX8_end.cls ≠ "java/lang/invoke/MethodHandle" ∧ yX8_end.cls ≠ "java/lang/invoke/VarHandle" ∧ (parseMethodDescriptor yX8_end.desc).map (fun d => d.parameters.length) = some 1 := by decide +kernel
theorem mm_X8_end : Cond.instanceMethod yX8_end ∈ zW := zi 988 (by decide +kernel) rfl
theorem mv_X8_end : Cond.selects yX8_end.cls yX8_end yX8_end ∈ zW := zi 989 (by decide +kernel) rfl
set_option maxRecDepth 100000 in
theorem mc_X8_fails : Cond.code yX8_fails cX8_fails 3 (some .boolean) ∈ zW := zi 1023 rfl rfl
theorem mi_X8_fails : Cond.initialized yX8_fails.cls ∈ zW := zi 60 (by decide +kernel) rfl
theorem mn_X8_fails : yX8_fails.cls ≠ "java/lang/invoke/MethodHandle" ∧ yX8_fails.cls ≠ "java/lang/invoke/VarHandle" ∧ (parseMethodDescriptor yX8_fails.desc).map (fun d => d.parameters.length) = some 2 := by decide +kernel
theorem mm_X8_fails : Cond.instanceMethod yX8_fails ∈ zW := zi 1022 (by decide +kernel) rfl
theorem mv_X8_fails : Cond.selects yX8_fails.cls yX8_fails yX8_fails ∈ zW := zi 36 (by decide +kernel) rfl
set_option maxRecDepth 100000 in
theorem mc_X8_fault : Cond.code yX8_fault cX8_fault 2 (some .int) ∈ zW := zi 1044 rfl rfl
theorem mi_X8_fault : Cond.initialized yX8_fault.cls ∈ zW := zi 60 (by decide +kernel) rfl
theorem mn_X8_fault : yX8_fault.cls ≠ "java/lang/invoke/MethodHandle" ∧ yX8_fault.cls ≠ "java/lang/invoke/VarHandle" ∧ (parseMethodDescriptor yX8_fault.desc).map (fun d => d.parameters.length) = some 1 := by decide +kernel
theorem mm_X8_fault : Cond.instanceMethod yX8_fault ∈ zW := zi 1042 (by decide +kernel) rfl
theorem mv_X8_fault : Cond.selects yX8_fault.cls yX8_fault yX8_fault ∈ zW := zi 1043 (by decide +kernel) rfl
set_option maxRecDepth 100000 in
theorem mc_X8_feed : Cond.code yX8_feed cX8_feed 6 (some .int) ∈ zW := zi 982 rfl rfl
theorem mi_X8_feed : Cond.initialized yX8_feed.cls ∈ zW := zi 60 (by decide +kernel) rfl
theorem mn_X8_feed : yX8_feed.cls ≠ "java/lang/invoke/MethodHandle" ∧ yX8_feed.cls ≠ "java/lang/invoke/VarHandle" ∧ (parseMethodDescriptor yX8_feed.desc).map (fun d => d.parameters.length) = some 5 := by decide +kernel
theorem mm_X8_feed : Cond.instanceMethod yX8_feed ∈ zW := zi 980 (by decide +kernel) rfl
theorem mv_X8_feed : Cond.selects yX8_feed.cls yX8_feed yX8_feed ∈ zW := zi 981 (by decide +kernel) rfl
set_option maxRecDepth 100000 in
theorem mc_X8_fewest : Cond.code yX8_fewest cX8_fewest 3 (some .int) ∈ zW := zi 1119 rfl rfl
theorem mi_X8_fewest : Cond.initialized yX8_fewest.cls ∈ zW := zi 60 (by decide +kernel) rfl
theorem mn_X8_fewest : yX8_fewest.cls ≠ "java/lang/invoke/MethodHandle" ∧ yX8_fewest.cls ≠ "java/lang/invoke/VarHandle" ∧ (parseMethodDescriptor yX8_fewest.desc).map (fun d => d.parameters.length) = some 0 := by decide +kernel
theorem mm_X8_fewest : Cond.instanceMethod yX8_fewest ∈ zW := zi 1118 (by decide +kernel) rfl
theorem mv_X8_fewest : Cond.selects yX8_fewest.cls yX8_fewest yX8_fewest ∈ zW := zi 48 (by decide +kernel) rfl
set_option maxRecDepth 100000 in
theorem mc_X8_greatest : Cond.code yX8_greatest cX8_greatest 6 (some .int) ∈ zW := zi 1098 rfl rfl
theorem mi_X8_greatest : Cond.initialized yX8_greatest.cls ∈ zW := zi 60 (by decide +kernel) rfl
theorem mn_X8_greatest : yX8_greatest.cls ≠ "java/lang/invoke/MethodHandle" ∧ yX8_greatest.cls ≠ "java/lang/invoke/VarHandle" ∧ (parseMethodDescriptor yX8_greatest.desc).map (fun d => d.parameters.length) = some 2 := by decide +kernel
theorem mm_X8_greatest : Cond.instanceMethod yX8_greatest ∈ zW := zi 1097 (by decide +kernel) rfl
theorem mv_X8_greatest : Cond.selects yX8_greatest.cls yX8_greatest yX8_greatest ∈ zW := zi 46 (by decide +kernel) rfl
set_option maxRecDepth 100000 in
theorem mc_X8_has : Cond.code yX8_has cX8_has 3 (some .boolean) ∈ zW := zi 1065 rfl rfl
theorem mi_X8_has : Cond.initialized yX8_has.cls ∈ zW := zi 60 (by decide +kernel) rfl
theorem mn_X8_has : yX8_has.cls ≠ "java/lang/invoke/MethodHandle" ∧ yX8_has.cls ≠ "java/lang/invoke/VarHandle" ∧ (parseMethodDescriptor yX8_has.desc).map (fun d => d.parameters.length) = some 2 := by decide +kernel
theorem mm_X8_has : Cond.instanceMethod yX8_has ∈ zW := zi 1064 (by decide +kernel) rfl
theorem mv_X8_has : Cond.selects yX8_has.cls yX8_has yX8_has ∈ zW := zi 43 (by decide +kernel) rfl
set_option maxRecDepth 100000 in
theorem mc_X8_here : Cond.code yX8_here cX8_here 1 (some .int) ∈ zW := zi 1011 rfl rfl
theorem mi_X8_here : Cond.initialized yX8_here.cls ∈ zW := zi 60 (by decide +kernel) rfl
theorem mn_X8_here : yX8_here.cls ≠ "java/lang/invoke/MethodHandle" ∧ yX8_here.cls ≠ "java/lang/invoke/VarHandle" ∧ (parseMethodDescriptor yX8_here.desc).map (fun d => d.parameters.length) = some 0 := by decide +kernel
theorem mm_X8_here : Cond.instanceMethod yX8_here ∈ zW := zi 1010 (by decide +kernel) rfl
theorem mv_X8_here : Cond.selects yX8_here.cls yX8_here yX8_here ∈ zW := zi 33 (by decide +kernel) rfl
set_option maxRecDepth 100000 in
theorem mc_X8_house : Cond.code yX8_house cX8_house 4 (some .int) ∈ zW := zi 1123 rfl rfl
theorem mi_X8_house : Cond.initialized yX8_house.cls ∈ zW := zi 60 (by decide +kernel) rfl
theorem mn_X8_house : yX8_house.cls ≠ "java/lang/invoke/MethodHandle" ∧ yX8_house.cls ≠ "java/lang/invoke/VarHandle" ∧ (parseMethodDescriptor yX8_house.desc).map (fun d => d.parameters.length) = some 2 := by decide +kernel
theorem mm_X8_house : Cond.instanceMethod yX8_house ∈ zW := zi 1121 (by decide +kernel) rfl
theorem mv_X8_house : Cond.selects yX8_house.cls yX8_house yX8_house ∈ zW := zi 1122 (by decide +kernel) rfl
set_option maxRecDepth 100000 in
theorem mc_X8_in : Cond.code yX8_in cX8_in 6 (some .boolean) ∈ zW := zi 958 rfl rfl
theorem mi_X8_in : Cond.initialized yX8_in.cls ∈ zW := zi 60 (by decide +kernel) rfl
theorem mn_X8_in : yX8_in.cls ≠ "java/lang/invoke/MethodHandle" ∧ yX8_in.cls ≠ "java/lang/invoke/VarHandle" ∧ (parseMethodDescriptor yX8_in.desc).map (fun d => d.parameters.length) = some 3 := by decide +kernel
theorem ms_X8_in : Cond.static yX8_in ∈ zW := zi 957 (by decide +kernel) rfl
set_option maxRecDepth 100000 in
theorem mc_X8_isCoupon : Cond.code yX8_isCoupon cX8_isCoupon 2 (some .boolean) ∈ zW := zi 1052 rfl rfl
theorem mi_X8_isCoupon : Cond.initialized yX8_isCoupon.cls ∈ zW := zi 60 (by decide +kernel) rfl
theorem mn_X8_isCoupon : yX8_isCoupon.cls ≠ "java/lang/invoke/MethodHandle" ∧ yX8_isCoupon.cls ≠ "java/lang/invoke/VarHandle" ∧ (parseMethodDescriptor yX8_isCoupon.desc).map (fun d => d.parameters.length) = some 1 := by decide +kernel
theorem mm_X8_isCoupon : Cond.instanceMethod yX8_isCoupon ∈ zW := zi 1051 (by decide +kernel) rfl
theorem mv_X8_isCoupon : Cond.selects yX8_isCoupon.cls yX8_isCoupon yX8_isCoupon ∈ zW := zi 41 (by decide +kernel) rfl
set_option maxRecDepth 100000 in
theorem mc_X8_isDigit : Cond.code yX8_isDigit cX8_isDigit 1 (some .boolean) ∈ zW := zi 1019 rfl rfl
theorem mi_X8_isDigit : Cond.initialized yX8_isDigit.cls ∈ zW := zi 60 (by decide +kernel) rfl
theorem mn_X8_isDigit : yX8_isDigit.cls ≠ "java/lang/invoke/MethodHandle" ∧ yX8_isDigit.cls ≠ "java/lang/invoke/VarHandle" ∧ (parseMethodDescriptor yX8_isDigit.desc).map (fun d => d.parameters.length) = some 0 := by decide +kernel
theorem mm_X8_isDigit : Cond.instanceMethod yX8_isDigit ∈ zW := zi 1018 (by decide +kernel) rfl
theorem mv_X8_isDigit : Cond.selects yX8_isDigit.cls yX8_isDigit yX8_isDigit ∈ zW := zi 35 (by decide +kernel) rfl
set_option maxRecDepth 100000 in
theorem mc_X8_join : Cond.code yX8_join cX8_join 7 none ∈ zW := zi 1040 rfl rfl
theorem mi_X8_join : Cond.initialized yX8_join.cls ∈ zW := zi 60 (by decide +kernel) rfl
theorem mn_X8_join : yX8_join.cls ≠ "java/lang/invoke/MethodHandle" ∧ yX8_join.cls ≠ "java/lang/invoke/VarHandle" ∧ (parseMethodDescriptor yX8_join.desc).map (fun d => d.parameters.length) = some 1 := by decide +kernel
theorem mm_X8_join : Cond.instanceMethod yX8_join ∈ zW := zi 1039 (by decide +kernel) rfl
theorem mv_X8_join : Cond.selects yX8_join.cls yX8_join yX8_join ∈ zW := zi 40 (by decide +kernel) rfl
set_option maxRecDepth 100000 in
theorem mc_X8_keepThen : Cond.code yX8_keepThen cX8_keepThen 2 none ∈ zW := zi 1145 rfl rfl
theorem mi_X8_keepThen : Cond.initialized yX8_keepThen.cls ∈ zW := zi 60 (by decide +kernel) rfl
theorem mn_X8_keepThen : yX8_keepThen.cls ≠ "java/lang/invoke/MethodHandle" ∧ yX8_keepThen.cls ≠ "java/lang/invoke/VarHandle" ∧ (parseMethodDescriptor yX8_keepThen.desc).map (fun d => d.parameters.length) = some 0 := by decide +kernel
theorem mm_X8_keepThen : Cond.instanceMethod yX8_keepThen ∈ zW := zi 1144 (by decide +kernel) rfl
theorem mv_X8_keepThen : Cond.selects yX8_keepThen.cls yX8_keepThen yX8_keepThen ∈ zW := zi 50 (by decide +kernel) rfl
set_option maxRecDepth 100000 in
theorem mc_X8_lay : Cond.code yX8_lay cX8_lay 3 none ∈ zW := zi 986 rfl rfl
theorem mi_X8_lay : Cond.initialized yX8_lay.cls ∈ zW := zi 60 (by decide +kernel) rfl
theorem mn_X8_lay : yX8_lay.cls ≠ "java/lang/invoke/MethodHandle" ∧ yX8_lay.cls ≠ "java/lang/invoke/VarHandle" ∧ (parseMethodDescriptor yX8_lay.desc).map (fun d => d.parameters.length) = some 1 := by decide +kernel
theorem mm_X8_lay : Cond.instanceMethod yX8_lay ∈ zW := zi 985 (by decide +kernel) rfl
theorem mv_X8_lay : Cond.selects yX8_lay.cls yX8_lay yX8_lay ∈ zW := zi 29 (by decide +kernel) rfl
set_option maxRecDepth 100000 in
theorem mc_X8_line : Cond.code yX8_line cX8_line 5 (some .int) ∈ zW := zi 1069 rfl rfl
theorem mi_X8_line : Cond.initialized yX8_line.cls ∈ zW := zi 60 (by decide +kernel) rfl
theorem mn_X8_line : yX8_line.cls ≠ "java/lang/invoke/MethodHandle" ∧ yX8_line.cls ≠ "java/lang/invoke/VarHandle" ∧ (parseMethodDescriptor yX8_line.desc).map (fun d => d.parameters.length) = some 2 := by decide +kernel
theorem mm_X8_line : Cond.instanceMethod yX8_line ∈ zW := zi 1067 (by decide +kernel) rfl
theorem mv_X8_line : Cond.selects yX8_line.cls yX8_line yX8_line ∈ zW := zi 1068 (by decide +kernel) rfl
set_option maxRecDepth 100000 in
theorem mc_X8_most : Cond.code yX8_most cX8_most 3 (some .int) ∈ zW := zi 1106 rfl rfl
theorem mi_X8_most : Cond.initialized yX8_most.cls ∈ zW := zi 60 (by decide +kernel) rfl
theorem mn_X8_most : yX8_most.cls ≠ "java/lang/invoke/MethodHandle" ∧ yX8_most.cls ≠ "java/lang/invoke/VarHandle" ∧ (parseMethodDescriptor yX8_most.desc).map (fun d => d.parameters.length) = some 0 := by decide +kernel
theorem mm_X8_most : Cond.instanceMethod yX8_most ∈ zW := zi 1105 (by decide +kernel) rfl
theorem mv_X8_most : Cond.selects yX8_most.cls yX8_most yX8_most ∈ zW := zi 47 (by decide +kernel) rfl
set_option maxRecDepth 100000 in
theorem mc_X8_number : Cond.code yX8_number cX8_number 3 (some .int) ∈ zW := zi 1027 rfl rfl
theorem mi_X8_number : Cond.initialized yX8_number.cls ∈ zW := zi 60 (by decide +kernel) rfl
theorem mn_X8_number : yX8_number.cls ≠ "java/lang/invoke/MethodHandle" ∧ yX8_number.cls ≠ "java/lang/invoke/VarHandle" ∧ (parseMethodDescriptor yX8_number.desc).map (fun d => d.parameters.length) = some 0 := by decide +kernel
theorem mm_X8_number : Cond.instanceMethod yX8_number ∈ zW := zi 1026 (by decide +kernel) rfl
theorem mv_X8_number : Cond.selects yX8_number.cls yX8_number yX8_number ∈ zW := zi 37 (by decide +kernel) rfl
set_option maxRecDepth 100000 in
theorem mc_X8_outcome : Cond.code yX8_outcome cX8_outcome 2 (some .int) ∈ zW := zi 969 rfl rfl
theorem mi_X8_outcome : Cond.initialized yX8_outcome.cls ∈ zW := zi 60 (by decide +kernel) rfl
theorem mn_X8_outcome : yX8_outcome.cls ≠ "java/lang/invoke/MethodHandle" ∧ yX8_outcome.cls ≠ "java/lang/invoke/VarHandle" ∧ (parseMethodDescriptor yX8_outcome.desc).map (fun d => d.parameters.length) = some 1 := by decide +kernel
theorem mm_X8_outcome : Cond.instanceMethod yX8_outcome ∈ zW := zi 967 (by decide +kernel) rfl
theorem mv_X8_outcome : Cond.selects yX8_outcome.cls yX8_outcome yX8_outcome ∈ zW := zi 968 (by decide +kernel) rfl
set_option maxRecDepth 100000 in
theorem mc_X8_outcomeOf : Cond.code yX8_outcomeOf cX8_outcomeOf 2 (some .int) ∈ zW := zi 973 rfl rfl
theorem mi_X8_outcomeOf : Cond.initialized yX8_outcomeOf.cls ∈ zW := zi 60 (by decide +kernel) rfl
theorem mn_X8_outcomeOf : yX8_outcomeOf.cls ≠ "java/lang/invoke/MethodHandle" ∧ yX8_outcomeOf.cls ≠ "java/lang/invoke/VarHandle" ∧ (parseMethodDescriptor yX8_outcomeOf.desc).map (fun d => d.parameters.length) = some 1 := by decide +kernel
theorem mm_X8_outcomeOf : Cond.instanceMethod yX8_outcomeOf ∈ zW := zi 972 (by decide +kernel) rfl
theorem mv_X8_outcomeOf : Cond.selects yX8_outcomeOf.cls yX8_outcomeOf yX8_outcomeOf ∈ zW := zi 28 (by decide +kernel) rfl
set_option maxRecDepth 100000 in
theorem mc_X8_panel : Cond.code yX8_panel cX8_panel 3 (some .boolean) ∈ zW := zi 963 rfl rfl
theorem mi_X8_panel : Cond.initialized yX8_panel.cls ∈ zW := zi 60 (by decide +kernel) rfl
theorem mn_X8_panel : yX8_panel.cls ≠ "java/lang/invoke/MethodHandle" ∧ yX8_panel.cls ≠ "java/lang/invoke/VarHandle" ∧ (parseMethodDescriptor yX8_panel.desc).map (fun d => d.parameters.length) = some 2 := by decide +kernel
theorem mm_X8_panel : Cond.instanceMethod yX8_panel ∈ zW := zi 961 (by decide +kernel) rfl
theorem mv_X8_panel : Cond.selects yX8_panel.cls yX8_panel yX8_panel ∈ zW := zi 962 (by decide +kernel) rfl
set_option maxRecDepth 100000 in
theorem mc_X8_points : Cond.code yX8_points cX8_points 3 (some .boolean) ∈ zW := zi 977 rfl rfl
theorem mi_X8_points : Cond.initialized yX8_points.cls ∈ zW := zi 60 (by decide +kernel) rfl
theorem mn_X8_points : yX8_points.cls ≠ "java/lang/invoke/MethodHandle" ∧ yX8_points.cls ≠ "java/lang/invoke/VarHandle" ∧ (parseMethodDescriptor yX8_points.desc).map (fun d => d.parameters.length) = some 2 := by decide +kernel
theorem mm_X8_points : Cond.instanceMethod yX8_points ∈ zW := zi 975 (by decide +kernel) rfl
theorem mv_X8_points : Cond.selects yX8_points.cls yX8_points yX8_points ∈ zW := zi 976 (by decide +kernel) rfl
set_option maxRecDepth 100000 in
theorem mc_X8_pointsOf : Cond.code yX8_pointsOf cX8_pointsOf 6 (some .int) ∈ zW := zi 1090 rfl rfl
theorem mi_X8_pointsOf : Cond.initialized yX8_pointsOf.cls ∈ zW := zi 60 (by decide +kernel) rfl
theorem mn_X8_pointsOf : yX8_pointsOf.cls ≠ "java/lang/invoke/MethodHandle" ∧ yX8_pointsOf.cls ≠ "java/lang/invoke/VarHandle" ∧ (parseMethodDescriptor yX8_pointsOf.desc).map (fun d => d.parameters.length) = some 2 := by decide +kernel
theorem mm_X8_pointsOf : Cond.instanceMethod yX8_pointsOf ∈ zW := zi 1089 (by decide +kernel) rfl
theorem mv_X8_pointsOf : Cond.selects yX8_pointsOf.cls yX8_pointsOf yX8_pointsOf ∈ zW := zi 45 (by decide +kernel) rfl
set_option maxRecDepth 100000 in
theorem mc_X8_prize : Cond.code yX8_prize cX8_prize 7 (some .long) ∈ zW := zi 1168 rfl rfl
theorem mi_X8_prize : Cond.initialized yX8_prize.cls ∈ zW := zi 60 (by decide +kernel) rfl
theorem mn_X8_prize : yX8_prize.cls ≠ "java/lang/invoke/MethodHandle" ∧ yX8_prize.cls ≠ "java/lang/invoke/VarHandle" ∧ (parseMethodDescriptor yX8_prize.desc).map (fun d => d.parameters.length) = some 2 := by decide +kernel
theorem mm_X8_prize : Cond.instanceMethod yX8_prize ∈ zW := zi 1166 (by decide +kernel) rfl
theorem mv_X8_prize : Cond.selects yX8_prize.cls yX8_prize yX8_prize ∈ zW := zi 1167 (by decide +kernel) rfl
set_option maxRecDepth 100000 in
theorem mc_X8_put : Cond.code yX8_put cX8_put 7 none ∈ zW := zi 1032 rfl rfl
theorem mi_X8_put : Cond.initialized yX8_put.cls ∈ zW := zi 60 (by decide +kernel) rfl
theorem mn_X8_put : yX8_put.cls ≠ "java/lang/invoke/MethodHandle" ∧ yX8_put.cls ≠ "java/lang/invoke/VarHandle" ∧ (parseMethodDescriptor yX8_put.desc).map (fun d => d.parameters.length) = some 0 := by decide +kernel
theorem mm_X8_put : Cond.instanceMethod yX8_put ∈ zW := zi 1031 (by decide +kernel) rfl
theorem mv_X8_put : Cond.selects yX8_put.cls yX8_put yX8_put ∈ zW := zi 38 (by decide +kernel) rfl
set_option maxRecDepth 100000 in
theorem mc_X8_readAlt : Cond.code yX8_readAlt cX8_readAlt 2 (some .boolean) ∈ zW := zi 1003 rfl rfl
theorem mi_X8_readAlt : Cond.initialized yX8_readAlt.cls ∈ zW := zi 60 (by decide +kernel) rfl
theorem mn_X8_readAlt : yX8_readAlt.cls ≠ "java/lang/invoke/MethodHandle" ∧ yX8_readAlt.cls ≠ "java/lang/invoke/VarHandle" ∧ (parseMethodDescriptor yX8_readAlt.desc).map (fun d => d.parameters.length) = some 1 := by decide +kernel
theorem mm_X8_readAlt : Cond.instanceMethod yX8_readAlt ∈ zW := zi 1002 (by decide +kernel) rfl
theorem mv_X8_readAlt : Cond.selects yX8_readAlt.cls yX8_readAlt yX8_readAlt ∈ zW := zi 31 (by decide +kernel) rfl
set_option maxRecDepth 100000 in
theorem mc_X8_readOne : Cond.code yX8_readOne cX8_readOne 2 (some .boolean) ∈ zW := zi 1007 rfl rfl
theorem mi_X8_readOne : Cond.initialized yX8_readOne.cls ∈ zW := zi 60 (by decide +kernel) rfl
theorem mn_X8_readOne : yX8_readOne.cls ≠ "java/lang/invoke/MethodHandle" ∧ yX8_readOne.cls ≠ "java/lang/invoke/VarHandle" ∧ (parseMethodDescriptor yX8_readOne.desc).map (fun d => d.parameters.length) = some 1 := by decide +kernel
theorem mm_X8_readOne : Cond.instanceMethod yX8_readOne ∈ zW := zi 1006 (by decide +kernel) rfl
theorem mv_X8_readOne : Cond.selects yX8_readOne.cls yX8_readOne yX8_readOne ∈ zW := zi 32 (by decide +kernel) rfl
set_option maxRecDepth 100000 in
theorem mc_X8_readPart : Cond.code yX8_readPart cX8_readPart 9 (some .boolean) ∈ zW := zi 1015 rfl rfl
theorem mi_X8_readPart : Cond.initialized yX8_readPart.cls ∈ zW := zi 60 (by decide +kernel) rfl
theorem mn_X8_readPart : yX8_readPart.cls ≠ "java/lang/invoke/MethodHandle" ∧ yX8_readPart.cls ≠ "java/lang/invoke/VarHandle" ∧ (parseMethodDescriptor yX8_readPart.desc).map (fun d => d.parameters.length) = some 0 := by decide +kernel
theorem mm_X8_readPart : Cond.instanceMethod yX8_readPart ∈ zW := zi 1014 (by decide +kernel) rfl
theorem mv_X8_readPart : Cond.selects yX8_readPart.cls yX8_readPart yX8_readPart ∈ zW := zi 34 (by decide +kernel) rfl
set_option maxRecDepth 100000 in
theorem mc_X8_readPlan : Cond.code yX8_readPlan cX8_readPlan 3 (some .boolean) ∈ zW := zi 999 rfl rfl
theorem mi_X8_readPlan : Cond.initialized yX8_readPlan.cls ∈ zW := zi 60 (by decide +kernel) rfl
theorem mn_X8_readPlan : yX8_readPlan.cls ≠ "java/lang/invoke/MethodHandle" ∧ yX8_readPlan.cls ≠ "java/lang/invoke/VarHandle" ∧ (parseMethodDescriptor yX8_readPlan.desc).map (fun d => d.parameters.length) = some 1 := by decide +kernel
theorem mm_X8_readPlan : Cond.instanceMethod yX8_readPlan ∈ zW := zi 998 (by decide +kernel) rfl
theorem mv_X8_readPlan : Cond.selects yX8_readPlan.cls yX8_readPlan yX8_readPlan ∈ zW := zi 30 (by decide +kernel) rfl
set_option maxRecDepth 100000 in
theorem mc_X8_repeal : Cond.code yX8_repeal cX8_repeal 2 (some .int) ∈ zW := zi 1133 rfl rfl
theorem mi_X8_repeal : Cond.initialized yX8_repeal.cls ∈ zW := zi 60 (by decide +kernel) rfl
theorem mn_X8_repeal : yX8_repeal.cls ≠ "java/lang/invoke/MethodHandle" ∧ yX8_repeal.cls ≠ "java/lang/invoke/VarHandle" ∧ (parseMethodDescriptor yX8_repeal.desc).map (fun d => d.parameters.length) = some 0 := by decide +kernel
theorem mm_X8_repeal : Cond.instanceMethod yX8_repeal ∈ zW := zi 1131 (by decide +kernel) rfl
theorem mv_X8_repeal : Cond.selects yX8_repeal.cls yX8_repeal yX8_repeal ∈ zW := zi 1132 (by decide +kernel) rfl
set_option maxRecDepth 100000 in
theorem mc_X8_score : Cond.code yX8_score cX8_score 4 (some .boolean) ∈ zW := zi 954 rfl rfl
theorem mi_X8_score : Cond.initialized yX8_score.cls ∈ zW := zi 60 (by decide +kernel) rfl
theorem mn_X8_score : yX8_score.cls ≠ "java/lang/invoke/MethodHandle" ∧ yX8_score.cls ≠ "java/lang/invoke/VarHandle" ∧ (parseMethodDescriptor yX8_score.desc).map (fun d => d.parameters.length) = some 3 := by decide +kernel
theorem mm_X8_score : Cond.instanceMethod yX8_score ∈ zW := zi 952 (by decide +kernel) rfl
theorem mv_X8_score : Cond.selects yX8_score.cls yX8_score yX8_score ∈ zW := zi 953 (by decide +kernel) rfl
set_option maxRecDepth 100000 in
theorem mc_X8_settle : Cond.code yX8_settle cX8_settle 22 (some .long) ∈ zW := zi 1141 rfl rfl
theorem mi_X8_settle : Cond.initialized yX8_settle.cls ∈ zW := zi 60 (by decide +kernel) rfl
theorem mn_X8_settle : yX8_settle.cls ≠ "java/lang/invoke/MethodHandle" ∧ yX8_settle.cls ≠ "java/lang/invoke/VarHandle" ∧ (parseMethodDescriptor yX8_settle.desc).map (fun d => d.parameters.length) = some 0 := by decide +kernel
theorem mm_X8_settle : Cond.instanceMethod yX8_settle ∈ zW := zi 1139 (by decide +kernel) rfl
theorem mv_X8_settle : Cond.selects yX8_settle.cls yX8_settle yX8_settle ∈ zW := zi 1140 (by decide +kernel) rfl
set_option maxRecDepth 100000 in
theorem mc_X8_stakes : Cond.code yX8_stakes cX8_stakes 4 (some .long) ∈ zW := zi 1155 rfl rfl
theorem mi_X8_stakes : Cond.initialized yX8_stakes.cls ∈ zW := zi 60 (by decide +kernel) rfl
theorem mn_X8_stakes : yX8_stakes.cls ≠ "java/lang/invoke/MethodHandle" ∧ yX8_stakes.cls ≠ "java/lang/invoke/VarHandle" ∧ (parseMethodDescriptor yX8_stakes.desc).map (fun d => d.parameters.length) = some 0 := by decide +kernel
theorem mm_X8_stakes : Cond.instanceMethod yX8_stakes ∈ zW := zi 1154 (by decide +kernel) rfl
theorem mv_X8_stakes : Cond.selects yX8_stakes.cls yX8_stakes yX8_stakes ∈ zW := zi 51 (by decide +kernel) rfl
set_option maxRecDepth 100000 in
theorem mc_X8_still : Cond.code yX8_still cX8_still 2 (some .int) ∈ zW := zi 1102 rfl rfl
theorem mi_X8_still : Cond.initialized yX8_still.cls ∈ zW := zi 60 (by decide +kernel) rfl
theorem mn_X8_still : yX8_still.cls ≠ "java/lang/invoke/MethodHandle" ∧ yX8_still.cls ≠ "java/lang/invoke/VarHandle" ∧ (parseMethodDescriptor yX8_still.desc).map (fun d => d.parameters.length) = some 1 := by decide +kernel
theorem mm_X8_still : Cond.instanceMethod yX8_still ∈ zW := zi 1100 (by decide +kernel) rfl
theorem mv_X8_still : Cond.selects yX8_still.cls yX8_still yX8_still ∈ zW := zi 1101 (by decide +kernel) rfl
set_option maxRecDepth 100000 in
theorem mc_X8_sure : Cond.code yX8_sure cX8_sure 3 (some .int) ∈ zW := zi 1115 rfl rfl
theorem mi_X8_sure : Cond.initialized yX8_sure.cls ∈ zW := zi 60 (by decide +kernel) rfl
theorem mn_X8_sure : yX8_sure.cls ≠ "java/lang/invoke/MethodHandle" ∧ yX8_sure.cls ≠ "java/lang/invoke/VarHandle" ∧ (parseMethodDescriptor yX8_sure.desc).map (fun d => d.parameters.length) = some 2 := by decide +kernel
theorem mm_X8_sure : Cond.instanceMethod yX8_sure ∈ zW := zi 1113 (by decide +kernel) rfl
theorem mv_X8_sure : Cond.selects yX8_sure.cls yX8_sure yX8_sure ∈ zW := zi 1114 (by decide +kernel) rfl
set_option maxRecDepth 100000 in
theorem mc_X8_tear : Cond.code yX8_tear cX8_tear 3 (some .boolean) ∈ zW := zi 1048 rfl rfl
theorem mi_X8_tear : Cond.initialized yX8_tear.cls ∈ zW := zi 60 (by decide +kernel) rfl
theorem mn_X8_tear : yX8_tear.cls ≠ "java/lang/invoke/MethodHandle" ∧ yX8_tear.cls ≠ "java/lang/invoke/VarHandle" ∧ (parseMethodDescriptor yX8_tear.desc).map (fun d => d.parameters.length) = some 2 := by decide +kernel
theorem mm_X8_tear : Cond.instanceMethod yX8_tear ∈ zW := zi 1046 (by decide +kernel) rfl
theorem mv_X8_tear : Cond.selects yX8_tear.cls yX8_tear yX8_tear ∈ zW := zi 1047 (by decide +kernel) rfl
set_option maxRecDepth 100000 in
theorem mc_X8_thrown : Cond.code yX8_thrown cX8_thrown 1 (some .int) ∈ zW := zi 950 rfl rfl
theorem mi_X8_thrown : Cond.initialized yX8_thrown.cls ∈ zW := zi 60 (by decide +kernel) rfl
theorem mn_X8_thrown : yX8_thrown.cls ≠ "java/lang/invoke/MethodHandle" ∧ yX8_thrown.cls ≠ "java/lang/invoke/VarHandle" ∧ (parseMethodDescriptor yX8_thrown.desc).map (fun d => d.parameters.length) = some 0 := by decide +kernel
theorem mm_X8_thrown : Cond.instanceMethod yX8_thrown ∈ zW := zi 948 (by decide +kernel) rfl
theorem mv_X8_thrown : Cond.selects yX8_thrown.cls yX8_thrown yX8_thrown ∈ zW := zi 949 (by decide +kernel) rfl
set_option maxRecDepth 100000 in
theorem mc_X8_told : Cond.code yX8_told cX8_told 6 (some .int) ∈ zW := zi 1056 rfl rfl
theorem mi_X8_told : Cond.initialized yX8_told.cls ∈ zW := zi 60 (by decide +kernel) rfl
theorem mn_X8_told : yX8_told.cls ≠ "java/lang/invoke/MethodHandle" ∧ yX8_told.cls ≠ "java/lang/invoke/VarHandle" ∧ (parseMethodDescriptor yX8_told.desc).map (fun d => d.parameters.length) = some 2 := by decide +kernel
theorem mm_X8_told : Cond.instanceMethod yX8_told ∈ zW := zi 1054 (by decide +kernel) rfl
theorem mv_X8_told : Cond.selects yX8_told.cls yX8_told yX8_told ∈ zW := zi 1055 (by decide +kernel) rfl
set_option maxRecDepth 100000 in
theorem mc_X8_undo : Cond.code yX8_undo cX8_undo 2 (some .int) ∈ zW := zi 1172 rfl rfl
theorem mi_X8_undo : Cond.initialized yX8_undo.cls ∈ zW := zi 60 (by decide +kernel) rfl
theorem mn_X8_undo : yX8_undo.cls ≠ "java/lang/invoke/MethodHandle" ∧ yX8_undo.cls ≠ "java/lang/invoke/VarHandle" ∧ (parseMethodDescriptor yX8_undo.desc).map (fun d => d.parameters.length) = some 0 := by decide +kernel
theorem mm_X8_undo : Cond.instanceMethod yX8_undo ∈ zW := zi 1170 (by decide +kernel) rfl
theorem mv_X8_undo : Cond.selects yX8_undo.cls yX8_undo yX8_undo ∈ zW := zi 1171 (by decide +kernel) rfl
set_option maxRecDepth 100000 in
theorem mc_X8_unlike : Cond.code yX8_unlike cX8_unlike 4 (some .int) ∈ zW := zi 1078 rfl rfl
theorem mi_X8_unlike : Cond.initialized yX8_unlike.cls ∈ zW := zi 60 (by decide +kernel) rfl
theorem mn_X8_unlike : yX8_unlike.cls ≠ "java/lang/invoke/MethodHandle" ∧ yX8_unlike.cls ≠ "java/lang/invoke/VarHandle" ∧ (parseMethodDescriptor yX8_unlike.desc).map (fun d => d.parameters.length) = some 2 := by decide +kernel
theorem mm_X8_unlike : Cond.instanceMethod yX8_unlike ∈ zW := zi 1076 (by decide +kernel) rfl
theorem mv_X8_unlike : Cond.selects yX8_unlike.cls yX8_unlike yX8_unlike ∈ zW := zi 1077 (by decide +kernel) rfl
set_option maxRecDepth 100000 in
theorem mc_X8_win : Cond.code yX8_win cX8_win 3 (some .int) ∈ zW := zi 1082 rfl rfl
theorem mi_X8_win : Cond.initialized yX8_win.cls ∈ zW := zi 60 (by decide +kernel) rfl
theorem mn_X8_win : yX8_win.cls ≠ "java/lang/invoke/MethodHandle" ∧ yX8_win.cls ≠ "java/lang/invoke/VarHandle" ∧ (parseMethodDescriptor yX8_win.desc).map (fun d => d.parameters.length) = some 2 := by decide +kernel
theorem mm_X8_win : Cond.instanceMethod yX8_win ∈ zW := zi 1080 (by decide +kernel) rfl
theorem mv_X8_win : Cond.selects yX8_win.cls yX8_win yX8_win ∈ zW := zi 1081 (by decide +kernel) rfl
set_option maxRecDepth 100000 in
theorem mc_J6_bitCount_0f7a4 : Cond.code yJ6_bitCount_0f7a4 cJ6_bitCount_0f7a4 1 (some .int) ∈ zW := zi 365 rfl rfl
theorem mi_J6_bitCount_0f7a4 : Cond.initialized yJ6_bitCount_0f7a4.cls ∈ zW := zi 61 (by decide +kernel) rfl
theorem mn_J6_bitCount_0f7a4 : yJ6_bitCount_0f7a4.cls ≠ "java/lang/invoke/MethodHandle" ∧ yJ6_bitCount_0f7a4.cls ≠ "java/lang/invoke/VarHandle" ∧ (parseMethodDescriptor yJ6_bitCount_0f7a4.desc).map (fun d => d.parameters.length) = some 1 := by decide +kernel
theorem ms_J6_bitCount_0f7a4 : Cond.static yJ6_bitCount_0f7a4 ∈ zW := zi 364 (by decide +kernel) rfl
set_option maxRecDepth 100000 in
theorem mc_J6_numberOfTrailingZeros_0f7a4 : Cond.code yJ6_numberOfTrailingZeros_0f7a4 cJ6_numberOfTrailingZeros_0f7a4 2 (some .int) ∈ zW := zi 427 rfl rfl
theorem mi_J6_numberOfTrailingZeros_0f7a4 : Cond.initialized yJ6_numberOfTrailingZeros_0f7a4.cls ∈ zW := zi 61 (by decide +kernel) rfl
theorem mn_J6_numberOfTrailingZeros_0f7a4 : yJ6_numberOfTrailingZeros_0f7a4.cls ≠ "java/lang/invoke/MethodHandle" ∧ yJ6_numberOfTrailingZeros_0f7a4.cls ≠ "java/lang/invoke/VarHandle" ∧ (parseMethodDescriptor yJ6_numberOfTrailingZeros_0f7a4.desc).map (fun d => d.parameters.length) = some 1 := by decide +kernel
theorem ms_J6_numberOfTrailingZeros_0f7a4 : Cond.static yJ6_numberOfTrailingZeros_0f7a4 ∈ zW := zi 426 (by decide +kernel) rfl
set_option maxRecDepth 100000 in
theorem mc_J13_bitCount_95d88 : Cond.code yJ13_bitCount_95d88 cJ13_bitCount_95d88 2 (some .int) ∈ zW := zi 418 rfl rfl
theorem mi_J13_bitCount_95d88 : Cond.initialized yJ13_bitCount_95d88.cls ∈ zW := zi 63 (by decide +kernel) rfl
theorem mn_J13_bitCount_95d88 : yJ13_bitCount_95d88.cls ≠ "java/lang/invoke/MethodHandle" ∧ yJ13_bitCount_95d88.cls ≠ "java/lang/invoke/VarHandle" ∧ (parseMethodDescriptor yJ13_bitCount_95d88.desc).map (fun d => d.parameters.length) = some 1 := by decide +kernel
theorem ms_J13_bitCount_95d88 : Cond.static yJ13_bitCount_95d88 ∈ zW := zi 417 (by decide +kernel) rfl
set_option maxRecDepth 100000 in
theorem mc_J13_numberOfTrailingZeros_95d88 : Cond.code yJ13_numberOfTrailingZeros_95d88 cJ13_numberOfTrailingZeros_95d88 3 (some .int) ∈ zW := zi 424 rfl rfl
theorem mi_J13_numberOfTrailingZeros_95d88 : Cond.initialized yJ13_numberOfTrailingZeros_95d88.cls ∈ zW := zi 63 (by decide +kernel) rfl
theorem mn_J13_numberOfTrailingZeros_95d88 : yJ13_numberOfTrailingZeros_95d88.cls ≠ "java/lang/invoke/MethodHandle" ∧ yJ13_numberOfTrailingZeros_95d88.cls ≠ "java/lang/invoke/VarHandle" ∧ (parseMethodDescriptor yJ13_numberOfTrailingZeros_95d88.desc).map (fun d => d.parameters.length) = some 1 := by decide +kernel
theorem ms_J13_numberOfTrailingZeros_95d88 : Cond.static yJ13_numberOfTrailingZeros_95d88 ∈ zW := zi 423 (by decide +kernel) rfl
set_option maxRecDepth 100000 in
theorem mc_J9_max_7cf53 : Cond.code yJ9_max_7cf53 cJ9_max_7cf53 2 (some .int) ∈ zW := zi 577 rfl rfl
theorem mi_J9_max_7cf53 : Cond.initialized yJ9_max_7cf53.cls ∈ zW := zi 70 (by decide +kernel) rfl
theorem mn_J9_max_7cf53 : yJ9_max_7cf53.cls ≠ "java/lang/invoke/MethodHandle" ∧ yJ9_max_7cf53.cls ≠ "java/lang/invoke/VarHandle" ∧ (parseMethodDescriptor yJ9_max_7cf53.desc).map (fun d => d.parameters.length) = some 2 := by decide +kernel
theorem ms_J9_max_7cf53 : Cond.static yJ9_max_7cf53 ∈ zW := zi 576 (by decide +kernel) rfl
set_option maxRecDepth 100000 in
theorem mc_J9_min_7cf53 : Cond.code yJ9_min_7cf53 cJ9_min_7cf53 2 (some .int) ∈ zW := zi 517 rfl rfl
theorem mi_J9_min_7cf53 : Cond.initialized yJ9_min_7cf53.cls ∈ zW := zi 70 (by decide +kernel) rfl
theorem mn_J9_min_7cf53 : yJ9_min_7cf53.cls ≠ "java/lang/invoke/MethodHandle" ∧ yJ9_min_7cf53.cls ≠ "java/lang/invoke/VarHandle" ∧ (parseMethodDescriptor yJ9_min_7cf53.desc).map (fun d => d.parameters.length) = some 2 := by decide +kernel
theorem ms_J9_min_7cf53 : Cond.static yJ9_min_7cf53 ∈ zW := zi 516 (by decide +kernel) rfl
set_option maxRecDepth 100000 in
theorem mc_J9_min_f86c9 : Cond.code yJ9_min_f86c9 cJ9_min_f86c9 4 (some .long) ∈ zW := zi 689 rfl rfl
theorem mi_J9_min_f86c9 : Cond.initialized yJ9_min_f86c9.cls ∈ zW := zi 70 (by decide +kernel) rfl
theorem mn_J9_min_f86c9 : yJ9_min_f86c9.cls ≠ "java/lang/invoke/MethodHandle" ∧ yJ9_min_f86c9.cls ≠ "java/lang/invoke/VarHandle" ∧ (parseMethodDescriptor yJ9_min_f86c9.desc).map (fun d => d.parameters.length) = some 2 := by decide +kernel
theorem ms_J9_min_f86c9 : Cond.static yJ9_min_f86c9 ∈ zW := zi 688 (by decide +kernel) rfl
set_option maxRecDepth 100000 in
theorem mc_J7_fill_53178 : Cond.code yJ7_fill_53178 cJ7_fill_53178 4 none ∈ zW := zi 155 rfl rfl
theorem mi_J7_fill_53178 : Cond.initialized yJ7_fill_53178.cls ∈ zW := zi 58 (by decide +kernel) rfl
theorem mn_J7_fill_53178 : yJ7_fill_53178.cls ≠ "java/lang/invoke/MethodHandle" ∧ yJ7_fill_53178.cls ≠ "java/lang/invoke/VarHandle" ∧ (parseMethodDescriptor yJ7_fill_53178.desc).map (fun d => d.parameters.length) = some 2 := by decide +kernel
theorem ms_J7_fill_53178 : Cond.static yJ7_fill_53178 ∈ zW := zi 154 (by decide +kernel) rfl
set_option maxRecDepth 100000 in
theorem mc_J7_fill_d0a16 : Cond.code yJ7_fill_d0a16 cJ7_fill_d0a16 5 none ∈ zW := zi 389 rfl rfl
theorem mi_J7_fill_d0a16 : Cond.initialized yJ7_fill_d0a16.cls ∈ zW := zi 58 (by decide +kernel) rfl
theorem mn_J7_fill_d0a16 : yJ7_fill_d0a16.cls ≠ "java/lang/invoke/MethodHandle" ∧ yJ7_fill_d0a16.cls ≠ "java/lang/invoke/VarHandle" ∧ (parseMethodDescriptor yJ7_fill_d0a16.desc).map (fun d => d.parameters.length) = some 2 := by decide +kernel
theorem ms_J7_fill_d0a16 : Cond.static yJ7_fill_d0a16 ∈ zW := zi 388 (by decide +kernel) rfl
theorem cl_L_15 : zCI RL 15 yX7_init cX7_init 1 0 := ⟨⟨zi 73 (by decide +kernel) rfl, mi_X7_init, mc_X7_init, mn_X7_init⟩, rfl, mm_X7_init⟩
theorem cl_X7_9 : zCI RX7 9 yX6_init cX6_init 1 0 := ⟨⟨zi 81 (by decide +kernel) rfl, mi_X6_init, mc_X6_init, mn_X6_init⟩, rfl, mm_X6_init⟩
theorem cl_X7_18 : zCI RX7 18 yX4_init cX4_init 2 1 := ⟨⟨zi 97 (by decide +kernel) rfl, mi_X4_init, mc_X4_init, mn_X4_init⟩, rfl, mm_X4_init⟩
theorem cl_X7_27 : zCI RX7 27 yX5_init cX5_init 1 0 := ⟨⟨zi 129 (by decide +kernel) rfl, mi_X5_init, mc_X5_init, mn_X5_init⟩, rfl, mm_X5_init⟩
theorem cl_X7_34 : zCI RX7 34 yX0_init cX0_init 2 0 := ⟨⟨zi 149 (by decide +kernel) rfl, mi_X0_init, mc_X0_init, mn_X0_init⟩, rfl, mm_X0_init⟩
theorem cl_X0_15 : zCS RX0 15 yJ7_fill_53178 cJ7_fill_53178 4 none 2 := ⟨⟨zi 153 (by decide +kernel) rfl, mi_J7_fill_53178, mc_J7_fill_53178, mn_J7_fill_53178⟩, ms_J7_fill_53178⟩
theorem cl_X0_33 : zCI RX0 33 yX2_init cX2_init 1 0 := ⟨⟨zi 161 (by decide +kernel) rfl, mi_X2_init, mc_X2_init, mn_X2_init⟩, rfl, mm_X2_init⟩
theorem cl_X2_7 : zCV RX2 7 yX2_begin cX2_begin 4 none 3 := ⟨⟨zi 165 (by decide +kernel) rfl, mi_X2_begin, mc_X2_begin, mn_X2_begin⟩, mm_X2_begin, mv_X2_begin⟩
theorem cl_L_19 : zCV RL 19 yX7_score cX7_score 4 (some .boolean) 3 := ⟨⟨zi 266 (by decide +kernel) rfl, mi_X7_score, mc_X7_score, mn_X7_score⟩, mm_X7_score, mv_X7_score⟩
theorem cl_X7_57 : zCS RX7 57 yX7_isIn cX7_isIn 3 (some .boolean) 3 := ⟨⟨zi 270 (by decide +kernel) rfl, mi_X7_isIn, mc_X7_isIn, mn_X7_isIn⟩, ms_X7_isIn⟩
theorem cl_X7_64 : zCS RX7 64 yX7_outcomeOfGoals cX7_outcomeOfGoals 2 (some .int) 2 := ⟨⟨zi 273 (by decide +kernel) rfl, mi_X7_outcomeOfGoals, mc_X7_outcomeOfGoals, mn_X7_outcomeOfGoals⟩, ms_X7_outcomeOfGoals⟩
theorem cl_L_24 : zCV RL 24 yX7_panel cX7_panel 3 (some .boolean) 2 := ⟨⟨zi 276 (by decide +kernel) rfl, mi_X7_panel, mc_X7_panel, mn_X7_panel⟩, mm_X7_panel, mv_X7_panel⟩
theorem cl_L_29 : zCV RL 29 yX7_outcome cX7_outcome 2 (some .int) 1 := ⟨⟨zi 280 (by decide +kernel) rfl, mi_X7_outcome, mc_X7_outcome, mn_X7_outcome⟩, mm_X7_outcome, mv_X7_outcome⟩
theorem cl_L_34 : zCV RL 34 yX7_points cX7_points 3 (some .boolean) 2 := ⟨⟨zi 284 (by decide +kernel) rfl, mi_X7_points, mc_X7_points, mn_X7_points⟩, mm_X7_points, mv_X7_points⟩
theorem cl_L_38 : zCV RL 38 yX7_feed cX7_feed 6 (some .int) 5 := ⟨⟨zi 288 (by decide +kernel) rfl, mi_X7_feed, mc_X7_feed, mn_X7_feed⟩, mm_X7_feed, mv_X7_feed⟩
theorem cl_X7_68 : zCV RX7 68 yX6_hasRoomForFive cX6_hasRoomForFive 1 (some .boolean) 0 := ⟨⟨zi 292 (by decide +kernel) rfl, mi_X6_hasRoomForFive, mc_X6_hasRoomForFive, mn_X6_hasRoomForFive⟩, mm_X6_hasRoomForFive, mv_X6_hasRoomForFive⟩
theorem cl_X7_72 : zCV RX7 72 yX6_append cX6_append 3 none 1 := ⟨⟨zi 296 (by decide +kernel) rfl, mi_X6_append, mc_X6_append, mn_X6_append⟩, mm_X6_append, mv_X6_append⟩
theorem cl_L_43 : zCV RL 43 yX7_end cX7_end 2 (some .boolean) 1 := ⟨⟨zi 300 (by decide +kernel) rfl, mi_X7_end, mc_X7_end, mn_X7_end⟩, mm_X7_end, mv_X7_end⟩
theorem cl_X7_79 : zCV RX7 79 yX6_cutTo cX6_cutTo 2 (some .boolean) 1 := ⟨⟨zi 304 (by decide +kernel) rfl, mi_X6_cutTo, mc_X6_cutTo, mn_X6_cutTo⟩, mm_X6_cutTo, mv_X6_cutTo⟩
theorem cl_L_48 : zCV RL 48 yX7_coupon cX7_coupon 5 (some .int) 2 := ⟨⟨zi 308 (by decide +kernel) rfl, mi_X7_coupon, mc_X7_coupon, mn_X7_coupon⟩, mm_X7_coupon, mv_X7_coupon⟩
theorem cl_X7_83 : zCV RX7 83 yX4_forgetFault cX4_forgetFault 1 none 0 := ⟨⟨zi 312 (by decide +kernel) rfl, mi_X4_forgetFault, mc_X4_forgetFault, mn_X4_forgetFault⟩, mm_X4_forgetFault, mv_X4_forgetFault⟩
theorem cl_X7_89 : zCV RX7 89 yX4_readTape cX4_readTape 2 (some (.object "PoolsHall$LineSet")) 0 := ⟨⟨zi 316 (by decide +kernel) rfl, mi_X4_readTape, mc_X4_readTape, mn_X4_readTape⟩, mm_X4_readTape, mv_X4_readTape⟩
theorem cl_X4_38 : zCV RX4 38 yX4_readPlan cX4_readPlan 4 (some .boolean) 1 := ⟨⟨zi 320 (by decide +kernel) rfl, mi_X4_readPlan, mc_X4_readPlan, mn_X4_readPlan⟩, mm_X4_readPlan, mv_X4_readPlan⟩
theorem cl_X4_56 : zCV RX4 56 yX4_readAlternative cX4_readAlternative 3 (some .boolean) 1 := ⟨⟨zi 324 (by decide +kernel) rfl, mi_X4_readAlternative, mc_X4_readAlternative, mn_X4_readAlternative⟩, mm_X4_readAlternative, mv_X4_readAlternative⟩
theorem cl_X4_70 : zCV RX4 70 yX4_readPart cX4_readPart 2 (some .boolean) 1 := ⟨⟨zi 328 (by decide +kernel) rfl, mi_X4_readPart, mc_X4_readPart, mn_X4_readPart⟩, mm_X4_readPart, mv_X4_readPart⟩
theorem cl_X4_59 : zCV RX4 59 yX6_byteAt cX6_byteAt 2 (some .int) 1 := ⟨⟨zi 332 (by decide +kernel) rfl, mi_X6_byteAt, mc_X6_byteAt, mn_X6_byteAt⟩, mm_X6_byteAt, mv_X6_byteAt⟩
theorem cl_X4_73 : zCV RX4 73 yX4_readInBrackets cX4_readInBrackets 2 (some .boolean) 1 := ⟨⟨zi 336 (by decide +kernel) rfl, mi_X4_readInBrackets, mc_X4_readInBrackets, mn_X4_readInBrackets⟩, mm_X4_readInBrackets, mv_X4_readInBrackets⟩
theorem cl_X4_47 : zCV RX4 47 yX4_stopAt cX4_stopAt 3 (some .boolean) 2 := ⟨⟨zi 340 (by decide +kernel) rfl, mi_X4_stopAt, mc_X4_stopAt, mn_X4_stopAt⟩, mm_X4_stopAt, mv_X4_stopAt⟩
theorem cl_X4_76 : zCV RX4 76 yX4_readChoices cX4_readChoices 6 (some .boolean) 0 := ⟨⟨zi 344 (by decide +kernel) rfl, mi_X4_readChoices, mc_X4_readChoices, mn_X4_readChoices⟩, mm_X4_readChoices, mv_X4_readChoices⟩
theorem cl_X4_80 : zCV RX4 80 yX4_digitsHere cX4_digitsHere 1 (some .int) 0 := ⟨⟨zi 348 (by decide +kernel) rfl, mi_X4_digitsHere, mc_X4_digitsHere, mn_X4_digitsHere⟩, mm_X4_digitsHere, mv_X4_digitsHere⟩
theorem cl_X4_99 : zCS RX4 99 yX4_isDigit cX4_isDigit 1 (some .boolean) 1 := ⟨⟨zi 352 (by decide +kernel) rfl, mi_X4_isDigit, mc_X4_isDigit, mn_X4_isDigit⟩, ms_X4_isDigit⟩
theorem cl_X4_84 : zCV RX4 84 yX4_readNumber cX4_readNumber 4 (some .int) 0 := ⟨⟨zi 355 (by decide +kernel) rfl, mi_X4_readNumber, mc_X4_readNumber, mn_X4_readNumber⟩, mm_X4_readNumber, mv_X4_readNumber⟩
theorem cl_X4_87 : zCV RX4 87 yX4_readMatches cX4_readMatches 5 (some .int) 0 := ⟨⟨zi 359 (by decide +kernel) rfl, mi_X4_readMatches, mc_X4_readMatches, mn_X4_readMatches⟩, mm_X4_readMatches, mv_X4_readMatches⟩
theorem cl_X4_90 : zCS RX4 90 yJ6_bitCount_0f7a4 cJ6_bitCount_0f7a4 1 (some .int) 1 := ⟨⟨zi 363 (by decide +kernel) rfl, mi_J6_bitCount_0f7a4, mc_J6_bitCount_0f7a4, mn_J6_bitCount_0f7a4⟩, ms_J6_bitCount_0f7a4⟩
theorem cl_X4_95 : zCV RX4 95 yX4_pushChoices cX4_pushChoices 4 none 2 := ⟨⟨zi 369 (by decide +kernel) rfl, mi_X4_pushChoices, mc_X4_pushChoices, mn_X4_pushChoices⟩, mm_X4_pushChoices, mv_X4_pushChoices⟩
theorem cl_X4_51 : zCI RX4 51 yX3_init cX3_init 1 0 := ⟨⟨zi 374 (by decide +kernel) rfl, mi_X3_init, mc_X3_init, mn_X3_init⟩, rfl, mm_X3_init⟩
theorem cl_X4_102 : zCV RX4 102 yX3_becomeChoices cX3_becomeChoices 6 none 2 := ⟨⟨zi 383 (by decide +kernel) rfl, mi_X3_becomeChoices, mc_X3_becomeChoices, mn_X3_becomeChoices⟩, mm_X3_becomeChoices, mv_X3_becomeChoices⟩
theorem cl_X3_21 : zCS RX3 21 yJ7_fill_d0a16 cJ7_fill_d0a16 5 none 2 := ⟨⟨zi 387 (by decide +kernel) rfl, mi_J7_fill_d0a16, mc_J7_fill_d0a16, mn_J7_fill_d0a16⟩, ms_J7_fill_d0a16⟩
theorem cl_X3_27 : zCS RX3 27 yJ6_bitCount_0f7a4 cJ6_bitCount_0f7a4 1 (some .int) 1 := ⟨⟨zi 390 (by decide +kernel) rfl, mi_J6_bitCount_0f7a4, mc_J6_bitCount_0f7a4, mn_J6_bitCount_0f7a4⟩, ms_J6_bitCount_0f7a4⟩
theorem cl_X4_66 : zCV RX4 66 yX4_combineTopTwo cX4_combineTopTwo 5 none 1 := ⟨⟨zi 391 (by decide +kernel) rfl, mi_X4_combineTopTwo, mc_X4_combineTopTwo, mn_X4_combineTopTwo⟩, mm_X4_combineTopTwo, mv_X4_combineTopTwo⟩
theorem cl_X4_105 : zCV RX4 105 yX3_addAll cX3_addAll 3 none 1 := ⟨⟨zi 395 (by decide +kernel) rfl, mi_X3_addAll, mc_X3_addAll, mn_X3_addAll⟩, mm_X3_addAll, mv_X3_addAll⟩
theorem cl_X4_108 : zCV RX4 108 yX3_keepCommon cX3_keepCommon 3 none 1 := ⟨⟨zi 399 (by decide +kernel) rfl, mi_X3_keepCommon, mc_X3_keepCommon, mn_X3_keepCommon⟩, mm_X3_keepCommon, mv_X3_keepCommon⟩
theorem cl_X4_111 : zCV RX4 111 yX3_takeAway cX3_takeAway 3 none 1 := ⟨⟨zi 403 (by decide +kernel) rfl, mi_X3_takeAway, mc_X3_takeAway, mn_X3_takeAway⟩, mm_X3_takeAway, mv_X3_takeAway⟩
theorem cl_X4_114 : zCV RX4 114 yX3_becomeJoined cX3_becomeJoined 10 none 2 := ⟨⟨zi 408 (by decide +kernel) rfl, mi_X3_becomeJoined, mc_X3_becomeJoined, mn_X3_becomeJoined⟩, mm_X3_becomeJoined, mv_X3_becomeJoined⟩
theorem cl_X3_35 : zCV RX3 35 yX3_sizeOfAll cX3_sizeOfAll 3 (some .int) 0 := ⟨⟨zi 412 (by decide +kernel) rfl, mi_X3_sizeOfAll, mc_X3_sizeOfAll, mn_X3_sizeOfAll⟩, mm_X3_sizeOfAll, mv_X3_sizeOfAll⟩
theorem cl_X3_39 : zCS RX3 39 yJ13_bitCount_95d88 cJ13_bitCount_95d88 2 (some .int) 1 := ⟨⟨zi 416 (by decide +kernel) rfl, mi_J13_bitCount_95d88, mc_J13_bitCount_95d88, mn_J13_bitCount_95d88⟩, ms_J13_bitCount_95d88⟩
theorem cl_X3_44 : zCS RX3 44 yJ13_numberOfTrailingZeros_95d88 cJ13_numberOfTrailingZeros_95d88 3 (some .int) 1 := ⟨⟨zi 422 (by decide +kernel) rfl, mi_J13_numberOfTrailingZeros_95d88, mc_J13_numberOfTrailingZeros_95d88, mn_J13_numberOfTrailingZeros_95d88⟩, ms_J13_numberOfTrailingZeros_95d88⟩
theorem cl_J13_311 : zCS RJ13 311 yJ6_numberOfTrailingZeros_0f7a4 cJ6_numberOfTrailingZeros_0f7a4 2 (some .int) 1 := ⟨⟨zi 425 (by decide +kernel) rfl, mi_J6_numberOfTrailingZeros_0f7a4, mc_J6_numberOfTrailingZeros_0f7a4, mn_J6_numberOfTrailingZeros_0f7a4⟩, ms_J6_numberOfTrailingZeros_0f7a4⟩
theorem cl_X3_47 : zCV RX3 47 yX3_addJoined cX3_addJoined 10 none 3 := ⟨⟨zi 429 (by decide +kernel) rfl, mi_X3_addJoined, mc_X3_addJoined, mn_X3_addJoined⟩, mm_X3_addJoined, mv_X3_addJoined⟩
theorem cl_X3_51 : zCS RX3 51 yX3_wordWithout cX3_wordWithout 4 (some .long) 1 := ⟨⟨zi 433 (by decide +kernel) rfl, mi_X3_wordWithout, mc_X3_wordWithout, mn_X3_wordWithout⟩, ms_X3_wordWithout⟩
theorem cl_X4_63 : zCS RX4 63 yX4_isSetSign cX4_isSetSign 1 (some .boolean) 1 := ⟨⟨zi 438 (by decide +kernel) rfl, mi_X4_isSetSign, mc_X4_isSetSign, mn_X4_isSetSign⟩, ms_X4_isSetSign⟩
theorem cl_X4_52 : zCV RX4 52 yX3_copyFrom cX3_copyFrom 2 none 1 := ⟨⟨zi 441 (by decide +kernel) rfl, mi_X3_copyFrom, mc_X3_copyFrom, mn_X3_copyFrom⟩, mm_X3_copyFrom, mv_X3_copyFrom⟩
theorem cl_X7_95 : zCI RX7 95 yX1_init cX1_init 4 3 := ⟨⟨zi 450 (by decide +kernel) rfl, mi_X1_init, mc_X1_init, mn_X1_init⟩, rfl, mm_X1_init⟩
theorem cl_X1_13 : zCV RX1 13 yX3_sizeOfAll cX3_sizeOfAll 3 (some .int) 0 := ⟨⟨zi 454 (by decide +kernel) rfl, mi_X3_sizeOfAll, mc_X3_sizeOfAll, mn_X3_sizeOfAll⟩, mm_X3_sizeOfAll, mv_X3_sizeOfAll⟩
theorem cl_X7_98 : zCV RX7 98 yX0_addCoupon cX0_addCoupon 2 (some .int) 1 := ⟨⟨zi 480 (by decide +kernel) rfl, mi_X0_addCoupon, mc_X0_addCoupon, mn_X0_addCoupon⟩, mm_X0_addCoupon, mv_X0_addCoupon⟩
theorem cl_L_52 : zCV RL 52 yX7_fault cX7_fault 2 (some .int) 1 := ⟨⟨zi 484 (by decide +kernel) rfl, mi_X7_fault, mc_X7_fault, mn_X7_fault⟩, mm_X7_fault, mv_X7_fault⟩
theorem cl_L_56 : zCV RL 56 yX7_tear cX7_tear 4 (some .boolean) 2 := ⟨⟨zi 488 (by decide +kernel) rfl, mi_X7_tear, mc_X7_tear, mn_X7_tear⟩, mm_X7_tear, mv_X7_tear⟩
theorem cl_X7_108 : zCV RX7 108 yX0_couponAt cX0_couponAt 2 (some (.object "PoolsHall$Coupon")) 1 := ⟨⟨zi 492 (by decide +kernel) rfl, mi_X0_couponAt, mc_X0_couponAt, mn_X0_couponAt⟩, mm_X0_couponAt, mv_X0_couponAt⟩
theorem cl_L_71 : zCV RL 71 yX7_line cX7_line 4 (some .int) 2 := ⟨⟨zi 496 (by decide +kernel) rfl, mi_X7_line, mc_X7_line, mn_X7_line⟩, mm_X7_line, mv_X7_line⟩
theorem cl_X7_149 : zCV RX7 149 yX3_numberAt cX3_numberAt 5 (some .int) 1 := ⟨⟨zi 500 (by decide +kernel) rfl, mi_X3_numberAt, mc_X3_numberAt, mn_X3_numberAt⟩, mm_X3_numberAt, mv_X3_numberAt⟩
theorem cl_X3_64 : zCS RX3 64 yX3_placeOfBit cX3_placeOfBit 6 (some .int) 2 := ⟨⟨zi 504 (by decide +kernel) rfl, mi_X3_placeOfBit, mc_X3_placeOfBit, mn_X3_placeOfBit⟩, ms_X3_placeOfBit⟩
theorem cl_L_75 : zCV RL 75 yX7_below cX7_below 4 (some .int) 2 := ⟨⟨zi 507 (by decide +kernel) rfl, mi_X7_below, mc_X7_below, mn_X7_below⟩, mm_X7_below, mv_X7_below⟩
theorem cl_X7_153 : zCV RX7 153 yX3_sizeUnder cX3_sizeUnder 5 (some .int) 1 := ⟨⟨zi 511 (by decide +kernel) rfl, mi_X3_sizeUnder, mc_X3_sizeUnder, mn_X3_sizeUnder⟩, mm_X3_sizeUnder, mv_X3_sizeUnder⟩
theorem cl_X3_58 : zCS RX3 58 yJ9_min_7cf53 cJ9_min_7cf53 2 (some .int) 2 := ⟨⟨zi 515 (by decide +kernel) rfl, mi_J9_min_7cf53, mc_J9_min_7cf53, mn_J9_min_7cf53⟩, ms_J9_min_7cf53⟩
theorem cl_L_79 : zCV RL 79 yX7_unlike cX7_unlike 5 (some .int) 2 := ⟨⟨zi 518 (by decide +kernel) rfl, mi_X7_unlike, mc_X7_unlike, mn_X7_unlike⟩, mm_X7_unlike, mv_X7_unlike⟩
theorem cl_X7_156 : zCV RX7 156 yX3_leastInJustOne cX3_leastInJustOne 5 (some .int) 1 := ⟨⟨zi 522 (by decide +kernel) rfl, mi_X3_leastInJustOne, mc_X3_leastInJustOne, mn_X3_leastInJustOne⟩, mm_X3_leastInJustOne, mv_X3_leastInJustOne⟩
theorem cl_L_83 : zCV RL 83 yX7_win cX7_win 4 (some .int) 2 := ⟨⟨zi 526 (by decide +kernel) rfl, mi_X7_win, mc_X7_win, mn_X7_win⟩, mm_X7_win, mv_X7_win⟩
theorem cl_X7_160 : zCV RX7 160 yX7_weighWithout cX7_weighWithout 2 none 1 := ⟨⟨zi 530 (by decide +kernel) rfl, mi_X7_weighWithout, mc_X7_weighWithout, mn_X7_weighWithout⟩, mm_X7_weighWithout, mv_X7_weighWithout⟩
theorem cl_X7_256 : zCV RX7 256 yX5_weigh cX5_weigh 6 none 3 := ⟨⟨zi 534 (by decide +kernel) rfl, mi_X5_weigh, mc_X5_weigh, mn_X5_weigh⟩, mm_X5_weigh, mv_X5_weigh⟩
theorem cl_X5_27 : zCV RX5 27 yX5_fillSums cX5_fillSums 5 none 2 := ⟨⟨zi 538 (by decide +kernel) rfl, mi_X5_fillSums, mc_X5_fillSums, mn_X5_fillSums⟩, mm_X5_fillSums, mv_X5_fillSums⟩
theorem cl_X5_34 : zCS RX5 34 yJ6_numberOfTrailingZeros_0f7a4 cJ6_numberOfTrailingZeros_0f7a4 2 (some .int) 1 := ⟨⟨zi 542 (by decide +kernel) rfl, mi_J6_numberOfTrailingZeros_0f7a4, mc_J6_numberOfTrailingZeros_0f7a4, mn_J6_numberOfTrailingZeros_0f7a4⟩, ms_J6_numberOfTrailingZeros_0f7a4⟩
theorem cl_X5_31 : zCV RX5 31 yX5_fillLowFrom cX5_fillLowFrom 3 none 0 := ⟨⟨zi 543 (by decide +kernel) rfl, mi_X5_fillLowFrom, mc_X5_fillLowFrom, mn_X5_fillLowFrom⟩, mm_X5_fillLowFrom, mv_X5_fillLowFrom⟩
theorem cl_X5_40 : zCS RX5 40 yJ7_fill_d0a16 cJ7_fill_d0a16 5 none 2 := ⟨⟨zi 547 (by decide +kernel) rfl, mi_J7_fill_d0a16, mc_J7_fill_d0a16, mn_J7_fill_d0a16⟩, ms_J7_fill_d0a16⟩
theorem cl_X7_163 : zCV RX7 163 yX5_sizeFrom cX5_sizeFrom 5 (some .int) 2 := ⟨⟨zi 548 (by decide +kernel) rfl, mi_X5_sizeFrom, mc_X5_sizeFrom, mn_X5_sizeFrom⟩, mm_X5_sizeFrom, mv_X5_sizeFrom⟩
theorem cl_X5_46 : zCV RX5 46 yX3_sizeOfAll cX3_sizeOfAll 3 (some .int) 0 := ⟨⟨zi 552 (by decide +kernel) rfl, mi_X3_sizeOfAll, mc_X3_sizeOfAll, mn_X3_sizeOfAll⟩, mm_X3_sizeOfAll, mv_X3_sizeOfAll⟩
theorem cl_X5_53 : zCV RX5 53 yX5_bitsFrom cX5_bitsFrom 2 (some .long) 1 := ⟨⟨zi 553 (by decide +kernel) rfl, mi_X5_bitsFrom, mc_X5_bitsFrom, mn_X5_bitsFrom⟩, mm_X5_bitsFrom, mv_X5_bitsFrom⟩
theorem cl_X5_57 : zCS RX5 57 yJ13_bitCount_95d88 cJ13_bitCount_95d88 2 (some .int) 1 := ⟨⟨zi 558 (by decide +kernel) rfl, mi_J13_bitCount_95d88, mc_J13_bitCount_95d88, mn_J13_bitCount_95d88⟩, ms_J13_bitCount_95d88⟩
theorem cl_L_87 : zCV RL 87 yX7_best cX7_best 2 (some .int) 1 := ⟨⟨zi 559 (by decide +kernel) rfl, mi_X7_best, mc_X7_best, mn_X7_best⟩, mm_X7_best, mv_X7_best⟩
theorem cl_X7_167 : zCV RX7 167 yX7_greatestPoints cX7_greatestPoints 4 (some .int) 2 := ⟨⟨zi 563 (by decide +kernel) rfl, mi_X7_greatestPoints, mc_X7_greatestPoints, mn_X7_greatestPoints⟩, mm_X7_greatestPoints, mv_X7_greatestPoints⟩
theorem cl_X7_260 : zCV RX7 260 yX5_greatest cX5_greatest 5 (some .int) 1 := ⟨⟨zi 567 (by decide +kernel) rfl, mi_X5_greatest, mc_X5_greatest, mn_X5_greatest⟩, mm_X5_greatest, mv_X5_greatest⟩
theorem cl_X5_65 : zCV RX5 65 yX5_greatestLow cX5_greatestLow 4 (some .int) 1 := ⟨⟨zi 571 (by decide +kernel) rfl, mi_X5_greatestLow, mc_X5_greatestLow, mn_X5_greatestLow⟩, mm_X5_greatestLow, mv_X5_greatestLow⟩
theorem cl_X5_68 : zCS RX5 68 yJ9_max_7cf53 cJ9_max_7cf53 2 (some .int) 2 := ⟨⟨zi 575 (by decide +kernel) rfl, mi_J9_max_7cf53, mc_J9_max_7cf53, mn_J9_max_7cf53⟩, ms_J9_max_7cf53⟩
theorem cl_L_91 : zCV RL 91 yX7_still cX7_still 2 (some .int) 1 := ⟨⟨zi 578 (by decide +kernel) rfl, mi_X7_still, mc_X7_still, mn_X7_still⟩, mm_X7_still, mv_X7_still⟩
theorem cl_X7_170 : zCV RX7 170 yX7_mostWorth cX7_mostWorth 3 (some .int) 0 := ⟨⟨zi 582 (by decide +kernel) rfl, mi_X7_mostWorth, mc_X7_mostWorth, mn_X7_mostWorth⟩, mm_X7_mostWorth, mv_X7_mostWorth⟩
theorem cl_X7_248 : zCS RX7 248 yJ9_max_7cf53 cJ9_max_7cf53 2 (some .int) 2 := ⟨⟨zi 586 (by decide +kernel) rfl, mi_J9_max_7cf53, mc_J9_max_7cf53, mn_J9_max_7cf53⟩, ms_J9_max_7cf53⟩
theorem cl_L_95 : zCV RL 95 yX7_could cX7_could 3 (some .int) 2 := ⟨⟨zi 587 (by decide +kernel) rfl, mi_X7_could, mc_X7_could, mn_X7_could⟩, mm_X7_could, mv_X7_could⟩
theorem cl_X7_173 : zCV RX7 173 yX7_sizeWithPoints cX7_sizeWithPoints 5 (some .int) 3 := ⟨⟨zi 591 (by decide +kernel) rfl, mi_X7_sizeWithPoints, mc_X7_sizeWithPoints, mn_X7_sizeWithPoints⟩, mm_X7_sizeWithPoints, mv_X7_sizeWithPoints⟩
theorem cl_L_99 : zCV RL 99 yX7_sure cX7_sure 3 (some .int) 2 := ⟨⟨zi 595 (by decide +kernel) rfl, mi_X7_sure, mc_X7_sure, mn_X7_sure⟩, mm_X7_sure, mv_X7_sure⟩
theorem cl_X7_177 : zCV RX7 177 yX7_leastWorth cX7_leastWorth 3 (some .int) 0 := ⟨⟨zi 599 (by decide +kernel) rfl, mi_X7_leastWorth, mc_X7_leastWorth, mn_X7_leastWorth⟩, mm_X7_leastWorth, mv_X7_leastWorth⟩
theorem cl_X7_253 : zCS RX7 253 yJ9_min_7cf53 cJ9_min_7cf53 2 (some .int) 2 := ⟨⟨zi 603 (by decide +kernel) rfl, mi_J9_min_7cf53, mc_J9_min_7cf53, mn_J9_min_7cf53⟩, ms_J9_min_7cf53⟩
theorem cl_L_103 : zCV RL 103 yX7_house cX7_house 4 (some .int) 2 := ⟨⟨zi 604 (by decide +kernel) rfl, mi_X7_house, mc_X7_house, mn_X7_house⟩, mm_X7_house, mv_X7_house⟩
theorem cl_L_107 : zCV RL 107 yX7_dividend cX7_dividend 4 (some .int) 3 := ⟨⟨zi 608 (by decide +kernel) rfl, mi_X7_dividend, mc_X7_dividend, mn_X7_dividend⟩, mm_X7_dividend, mv_X7_dividend⟩
theorem cl_X7_181 : zCV RX7 181 yX0_addDividend cX0_addDividend 5 (some .int) 3 := ⟨⟨zi 613 (by decide +kernel) rfl, mi_X0_addDividend, mc_X0_addDividend, mn_X0_addDividend⟩, mm_X0_addDividend, mv_X0_addDividend⟩
theorem cl_X0_71 : zCV RX0 71 yX0_dividendAt cX0_dividendAt 2 (some (.object "PoolsHall$Dividend")) 1 := ⟨⟨zi 617 (by decide +kernel) rfl, mi_X0_dividendAt, mc_X0_dividendAt, mn_X0_dividendAt⟩, mm_X0_dividendAt, mv_X0_dividendAt⟩
theorem cl_X0_78 : zCV RX0 78 yX0_sharesTogether cX0_sharesTogether 3 (some .int) 0 := ⟨⟨zi 621 (by decide +kernel) rfl, mi_X0_sharesTogether, mc_X0_sharesTogether, mn_X0_sharesTogether⟩, mm_X0_sharesTogether, mv_X0_sharesTogether⟩
theorem cl_X0_82 : zCV RX0 82 yX2_begin cX2_begin 4 none 3 := ⟨⟨zi 625 (by decide +kernel) rfl, mi_X2_begin, mc_X2_begin, mn_X2_begin⟩, mm_X2_begin, mv_X2_begin⟩
theorem cl_L_112 : zCV RL 112 yX7_repeal cX7_repeal 1 (some .int) 0 := ⟨⟨zi 626 (by decide +kernel) rfl, mi_X7_repeal, mc_X7_repeal, mn_X7_repeal⟩, mm_X7_repeal, mv_X7_repeal⟩
theorem cl_X7_184 : zCV RX7 184 yX0_dropDividends cX0_dropDividends 2 (some .int) 0 := ⟨⟨zi 630 (by decide +kernel) rfl, mi_X0_dropDividends, mc_X0_dropDividends, mn_X0_dropDividends⟩, mm_X0_dropDividends, mv_X0_dropDividends⟩
theorem cl_X0_89 : zCV RX0 89 yX0_carriedMoney cX0_carriedMoney 4 (some .long) 0 := ⟨⟨zi 634 (by decide +kernel) rfl, mi_X0_carriedMoney, mc_X0_carriedMoney, mn_X0_carriedMoney⟩, mm_X0_carriedMoney, mv_X0_carriedMoney⟩
theorem cl_L_116 : zCV RL 116 yX7_settle cX7_settle 1 (some .long) 0 := ⟨⟨zi 638 (by decide +kernel) rfl, mi_X7_settle, mc_X7_settle, mn_X7_settle⟩, mm_X7_settle, mv_X7_settle⟩
theorem cl_X7_187 : zCV RX7 187 yX0_matchesDecided cX0_matchesDecided 3 (some .int) 0 := ⟨⟨zi 642 (by decide +kernel) rfl, mi_X0_matchesDecided, mc_X0_matchesDecided, mn_X0_matchesDecided⟩, mm_X0_matchesDecided, mv_X0_matchesDecided⟩
theorem cl_X7_192 : zCV RX7 192 yX0_copyFrom cX0_copyFrom 3 none 1 := ⟨⟨zi 647 (by decide +kernel) rfl, mi_X0_copyFrom, mc_X0_copyFrom, mn_X0_copyFrom⟩, mm_X0_copyFrom, mv_X0_copyFrom⟩
theorem cl_X0_67 : zCV RX0 67 yX2_copyFrom cX2_copyFrom 2 none 1 := ⟨⟨zi 652 (by decide +kernel) rfl, mi_X2_copyFrom, mc_X2_copyFrom, mn_X2_copyFrom⟩, mm_X2_copyFrom, mv_X2_copyFrom⟩
theorem cl_X7_196 : zCV RX7 196 yX0_closeWeek cX0_closeWeek 15 (some .long) 3 := ⟨⟨zi 656 (by decide +kernel) rfl, mi_X0_closeWeek, mc_X0_closeWeek, mn_X0_closeWeek⟩, mm_X0_closeWeek, mv_X0_closeWeek⟩
theorem cl_X0_107 : zCV RX0 107 yX0_stakesInPlay cX0_stakesInPlay 5 (some .long) 0 := ⟨⟨zi 660 (by decide +kernel) rfl, mi_X0_stakesInPlay, mc_X0_stakesInPlay, mn_X0_stakesInPlay⟩, mm_X0_stakesInPlay, mv_X0_stakesInPlay⟩
theorem cl_X0_96 : zCV RX0 96 yX0_couponAt cX0_couponAt 2 (some (.object "PoolsHall$Coupon")) 1 := ⟨⟨zi 664 (by decide +kernel) rfl, mi_X0_couponAt, mc_X0_couponAt, mn_X0_couponAt⟩, mm_X0_couponAt, mv_X0_couponAt⟩
theorem cl_X0_104 : zCV RX0 104 yX1_stakeInCoins cX1_stakeInCoins 1 (some .int) 0 := ⟨⟨zi 665 (by decide +kernel) rfl, mi_X1_stakeInCoins, mc_X1_stakeInCoins, mn_X1_stakeInCoins⟩, mm_X1_stakeInCoins, mv_X1_stakeInCoins⟩
theorem cl_X0_112 : zCV RX0 112 yX0_openPrizes cX0_openPrizes 3 none 0 := ⟨⟨zi 670 (by decide +kernel) rfl, mi_X0_openPrizes, mc_X0_openPrizes, mn_X0_openPrizes⟩, mm_X0_openPrizes, mv_X0_openPrizes⟩
theorem cl_X0_115 : zCV RX0 115 yX0_payDividend cX0_payDividend 9 (some .long) 3 := ⟨⟨zi 674 (by decide +kernel) rfl, mi_X0_payDividend, mc_X0_payDividend, mn_X0_payDividend⟩, mm_X0_payDividend, mv_X0_payDividend⟩
theorem cl_X0_125 : zCV RX0 125 yX0_winningCoins cX0_winningCoins 8 (some .long) 3 := ⟨⟨zi 678 (by decide +kernel) rfl, mi_X0_winningCoins, mc_X0_winningCoins, mn_X0_winningCoins⟩, mm_X0_winningCoins, mv_X0_winningCoins⟩
theorem cl_X0_140 : zCV RX0 140 yX5_sizeFrom cX5_sizeFrom 5 (some .int) 2 := ⟨⟨zi 682 (by decide +kernel) rfl, mi_X5_sizeFrom, mc_X5_sizeFrom, mn_X5_sizeFrom⟩, mm_X5_sizeFrom, mv_X5_sizeFrom⟩
theorem cl_X0_129 : zCV RX0 129 yX2_pay cX2_pay 6 (some .long) 2 := ⟨⟨zi 683 (by decide +kernel) rfl, mi_X2_pay, mc_X2_pay, mn_X2_pay⟩, mm_X2_pay, mv_X2_pay⟩
theorem cl_X2_33 : zCS RX2 33 yJ9_min_f86c9 cJ9_min_f86c9 4 (some .long) 2 := ⟨⟨zi 687 (by decide +kernel) rfl, mi_J9_min_f86c9, mc_J9_min_f86c9, mn_J9_min_f86c9⟩, ms_J9_min_f86c9⟩
theorem cl_X0_119 : zCV RX0 119 yX0_beginNextWeek cX0_beginNextWeek 1 none 0 := ⟨⟨zi 690 (by decide +kernel) rfl, mi_X0_beginNextWeek, mc_X0_beginNextWeek, mn_X0_beginNextWeek⟩, mm_X0_beginNextWeek, mv_X0_beginNextWeek⟩
theorem cl_L_121 : zCV RL 121 yX7_count cX7_count 2 (some .long) 1 := ⟨⟨zi 694 (by decide +kernel) rfl, mi_X7_count, mc_X7_count, mn_X7_count⟩, mm_X7_count, mv_X7_count⟩
theorem cl_X7_206 : zCV RX7 206 yX0_stakesInPlay cX0_stakesInPlay 5 (some .long) 0 := ⟨⟨zi 698 (by decide +kernel) rfl, mi_X0_stakesInPlay, mc_X0_stakesInPlay, mn_X0_stakesInPlay⟩, mm_X0_stakesInPlay, mv_X0_stakesInPlay⟩
theorem cl_X7_217 : zCV RX7 217 yX0_carriedMoney cX0_carriedMoney 4 (some .long) 0 := ⟨⟨zi 699 (by decide +kernel) rfl, mi_X0_carriedMoney, mc_X0_carriedMoney, mn_X0_carriedMoney⟩, mm_X0_carriedMoney, mv_X0_carriedMoney⟩
theorem cl_L_126 : zCV RL 126 yX7_divided cX7_divided 4 (some .long) 2 := ⟨⟨zi 700 (by decide +kernel) rfl, mi_X7_divided, mc_X7_divided, mn_X7_divided⟩, mm_X7_divided, mv_X7_divided⟩
theorem cl_X7_220 : zCV RX7 220 yX0_dividendAt cX0_dividendAt 2 (some (.object "PoolsHall$Dividend")) 1 := ⟨⟨zi 704 (by decide +kernel) rfl, mi_X0_dividendAt, mc_X0_dividendAt, mn_X0_dividendAt⟩, mm_X0_dividendAt, mv_X0_dividendAt⟩
theorem cl_L_131 : zCV RL 131 yX7_prize cX7_prize 3 (some .long) 2 := ⟨⟨zi 705 (by decide +kernel) rfl, mi_X7_prize, mc_X7_prize, mn_X7_prize⟩, mm_X7_prize, mv_X7_prize⟩
theorem cl_X7_244 : zCV RX7 244 yX0_prizeTold cX0_prizeTold 6 (some .long) 2 := ⟨⟨zi 709 (by decide +kernel) rfl, mi_X0_prizeTold, mc_X0_prizeTold, mn_X0_prizeTold⟩, mm_X0_prizeTold, mv_X0_prizeTold⟩
theorem cl_L_135 : zCV RL 135 yX7_undo cX7_undo 1 (some .int) 0 := ⟨⟨zi 714 (by decide +kernel) rfl, mi_X7_undo, mc_X7_undo, mn_X7_undo⟩, mm_X7_undo, mv_X7_undo⟩
theorem cl_L_7 : zCV RL 7 yX7_told cX7_told 4 (some .int) 2 := ⟨⟨zi 722 (by decide +kernel) rfl, mi_X7_told, mc_X7_told, mn_X7_told⟩, mm_X7_told, mv_X7_told⟩
theorem cl_X7_125 : zCV RX7 125 yX1_stakeInCoins cX1_stakeInCoins 1 (some .int) 0 := ⟨⟨zi 792 (by decide +kernel) rfl, mi_X1_stakeInCoins, mc_X1_stakeInCoins, mn_X1_stakeInCoins⟩, mm_X1_stakeInCoins, mv_X1_stakeInCoins⟩
theorem cl_X7_139 : zCV RX7 139 yX3_matchesInSome cX3_matchesInSome 6 (some .int) 0 := ⟨⟨zi 793 (by decide +kernel) rfl, mi_X3_matchesInSome, mc_X3_matchesInSome, mn_X3_matchesInSome⟩, mm_X3_matchesInSome, mv_X3_matchesInSome⟩
theorem cl_X3_68 : zCV RX3 68 yX3_allWordsAsOne cX3_allWordsAsOne 4 (some .long) 0 := ⟨⟨zi 797 (by decide +kernel) rfl, mi_X3_allWordsAsOne, mc_X3_allWordsAsOne, mn_X3_allWordsAsOne⟩, mm_X3_allWordsAsOne, mv_X3_allWordsAsOne⟩
theorem cl_X7_144 : zCV RX7 144 yX3_matchesInAll cX3_matchesInAll 6 (some .int) 0 := ⟨⟨zi 801 (by decide +kernel) rfl, mi_X3_matchesInAll, mc_X3_matchesInAll, mn_X3_matchesInAll⟩, mm_X3_matchesInAll, mv_X3_matchesInAll⟩
theorem cl_L_18 : zCI RL 18 yX8_init cX8_init 2 0 := ⟨⟨zi 808 (by decide +kernel) rfl, mi_X8_init, mc_X8_init, mn_X8_init⟩, rfl, mm_X8_init⟩
theorem cl_L_67 : zCV RL 67 yX8_thrown cX8_thrown 1 (some .int) 0 := ⟨⟨zi 947 (by decide +kernel) rfl, mi_X8_thrown, mc_X8_thrown, mn_X8_thrown⟩, mm_X8_thrown, mv_X8_thrown⟩
theorem cl_L_23 : zCV RL 23 yX8_score cX8_score 4 (some .boolean) 3 := ⟨⟨zi 951 (by decide +kernel) rfl, mi_X8_score, mc_X8_score, mn_X8_score⟩, mm_X8_score, mv_X8_score⟩
theorem cl_X8_94 : zCS RX8 94 yX8_in cX8_in 6 (some .boolean) 3 := ⟨⟨zi 956 (by decide +kernel) rfl, mi_X8_in, mc_X8_in, mn_X8_in⟩, ms_X8_in⟩
theorem cl_L_28 : zCV RL 28 yX8_panel cX8_panel 3 (some .boolean) 2 := ⟨⟨zi 960 (by decide +kernel) rfl, mi_X8_panel, mc_X8_panel, mn_X8_panel⟩, mm_X8_panel, mv_X8_panel⟩
theorem cl_L_33 : zCV RL 33 yX8_outcome cX8_outcome 2 (some .int) 1 := ⟨⟨zi 966 (by decide +kernel) rfl, mi_X8_outcome, mc_X8_outcome, mn_X8_outcome⟩, mm_X8_outcome, mv_X8_outcome⟩
theorem cl_X8_104 : zCV RX8 104 yX8_outcomeOf cX8_outcomeOf 2 (some .int) 1 := ⟨⟨zi 970 (by decide +kernel) rfl, mi_X8_outcomeOf, mc_X8_outcomeOf, mn_X8_outcomeOf⟩, mm_X8_outcomeOf, mv_X8_outcomeOf⟩
theorem cl_L_37 : zCV RL 37 yX8_points cX8_points 3 (some .boolean) 2 := ⟨⟨zi 974 (by decide +kernel) rfl, mi_X8_points, mc_X8_points, mn_X8_points⟩, mm_X8_points, mv_X8_points⟩
theorem cl_L_42 : zCV RL 42 yX8_feed cX8_feed 6 (some .int) 5 := ⟨⟨zi 979 (by decide +kernel) rfl, mi_X8_feed, mc_X8_feed, mn_X8_feed⟩, mm_X8_feed, mv_X8_feed⟩
theorem cl_X8_113 : zCV RX8 113 yX8_lay cX8_lay 3 none 1 := ⟨⟨zi 983 (by decide +kernel) rfl, mi_X8_lay, mc_X8_lay, mn_X8_lay⟩, mm_X8_lay, mv_X8_lay⟩
theorem cl_L_47 : zCV RL 47 yX8_end cX8_end 2 (some .boolean) 1 := ⟨⟨zi 987 (by decide +kernel) rfl, mi_X8_end, mc_X8_end, mn_X8_end⟩, mm_X8_end, mv_X8_end⟩
theorem cl_L_51 : zCV RL 51 yX8_coupon cX8_coupon 5 (some .int) 2 := ⟨⟨zi 991 (by decide +kernel) rfl, mi_X8_coupon, mc_X8_coupon, mn_X8_coupon⟩, mm_X8_coupon, mv_X8_coupon⟩
theorem cl_X8_166 : zCV RX8 166 yX8_readPlan cX8_readPlan 3 (some .boolean) 1 := ⟨⟨zi 996 (by decide +kernel) rfl, mi_X8_readPlan, mc_X8_readPlan, mn_X8_readPlan⟩, mm_X8_readPlan, mv_X8_readPlan⟩
theorem cl_X8_169 : zCV RX8 169 yX8_readAlt cX8_readAlt 2 (some .boolean) 1 := ⟨⟨zi 1000 (by decide +kernel) rfl, mi_X8_readAlt, mc_X8_readAlt, mn_X8_readAlt⟩, mm_X8_readAlt, mv_X8_readAlt⟩
theorem cl_X8_156 : zCV RX8 156 yX8_readOne cX8_readOne 2 (some .boolean) 1 := ⟨⟨zi 1004 (by decide +kernel) rfl, mi_X8_readOne, mc_X8_readOne, mn_X8_readOne⟩, mm_X8_readOne, mv_X8_readOne⟩
theorem cl_X8_123 : zCV RX8 123 yX8_here cX8_here 1 (some .int) 0 := ⟨⟨zi 1008 (by decide +kernel) rfl, mi_X8_here, mc_X8_here, mn_X8_here⟩, mm_X8_here, mv_X8_here⟩
theorem cl_X8_163 : zCV RX8 163 yX8_readPart cX8_readPart 9 (some .boolean) 0 := ⟨⟨zi 1012 (by decide +kernel) rfl, mi_X8_readPart, mc_X8_readPart, mn_X8_readPart⟩, mm_X8_readPart, mv_X8_readPart⟩
theorem cl_X8_133 : zCV RX8 133 yX8_isDigit cX8_isDigit 1 (some .boolean) 0 := ⟨⟨zi 1016 (by decide +kernel) rfl, mi_X8_isDigit, mc_X8_isDigit, mn_X8_isDigit⟩, mm_X8_isDigit, mv_X8_isDigit⟩
theorem cl_X8_137 : zCV RX8 137 yX8_fails cX8_fails 3 (some .boolean) 2 := ⟨⟨zi 1020 (by decide +kernel) rfl, mi_X8_fails, mc_X8_fails, mn_X8_fails⟩, mm_X8_fails, mv_X8_fails⟩
theorem cl_X8_141 : zCV RX8 141 yX8_number cX8_number 3 (some .int) 0 := ⟨⟨zi 1024 (by decide +kernel) rfl, mi_X8_number, mc_X8_number, mn_X8_number⟩, mm_X8_number, mv_X8_number⟩
theorem cl_X8_147 : zCS RX8 147 yJ6_bitCount_0f7a4 cJ6_bitCount_0f7a4 1 (some .int) 1 := ⟨⟨zi 1028 (by decide +kernel) rfl, mi_J6_bitCount_0f7a4, mc_J6_bitCount_0f7a4, mn_J6_bitCount_0f7a4⟩, ms_J6_bitCount_0f7a4⟩
theorem cl_X8_160 : zCV RX8 160 yX8_put cX8_put 7 none 0 := ⟨⟨zi 1029 (by decide +kernel) rfl, mi_X8_put, mc_X8_put, mn_X8_put⟩, mm_X8_put, mv_X8_put⟩
theorem cl_X8_152 : zCV RX8 152 yX8_count cX8_count 5 (some .int) 2 := ⟨⟨zi 1033 (by decide +kernel) rfl, mi_X8_count, mc_X8_count, mn_X8_count⟩, mm_X8_count, mv_X8_count⟩
theorem cl_X8_172 : zCV RX8 172 yX8_join cX8_join 7 none 1 := ⟨⟨zi 1037 (by decide +kernel) rfl, mi_X8_join, mc_X8_join, mn_X8_join⟩, mm_X8_join, mv_X8_join⟩
theorem cl_L_55 : zCV RL 55 yX8_fault cX8_fault 2 (some .int) 1 := ⟨⟨zi 1041 (by decide +kernel) rfl, mi_X8_fault, mc_X8_fault, mn_X8_fault⟩, mm_X8_fault, mv_X8_fault⟩
theorem cl_L_60 : zCV RL 60 yX8_tear cX8_tear 3 (some .boolean) 2 := ⟨⟨zi 1045 (by decide +kernel) rfl, mi_X8_tear, mc_X8_tear, mn_X8_tear⟩, mm_X8_tear, mv_X8_tear⟩
theorem cl_X8_183 : zCV RX8 183 yX8_isCoupon cX8_isCoupon 2 (some .boolean) 1 := ⟨⟨zi 1049 (by decide +kernel) rfl, mi_X8_isCoupon, mc_X8_isCoupon, mn_X8_isCoupon⟩, mm_X8_isCoupon, mv_X8_isCoupon⟩
theorem cl_L_66 : zCV RL 66 yX8_told cX8_told 6 (some .int) 2 := ⟨⟨zi 1053 (by decide +kernel) rfl, mi_X8_told, mc_X8_told, mn_X8_told⟩, mm_X8_told, mv_X8_told⟩
theorem cl_X8_188 : zCV RX8 188 yX8_below0 cX8_below0 5 (some .int) 2 := ⟨⟨zi 1058 (by decide +kernel) rfl, mi_X8_below0, mc_X8_below0, mn_X8_below0⟩, mm_X8_below0, mv_X8_below0⟩
theorem cl_X8_180 : zCV RX8 180 yX8_has cX8_has 3 (some .boolean) 2 := ⟨⟨zi 1062 (by decide +kernel) rfl, mi_X8_has, mc_X8_has, mn_X8_has⟩, mm_X8_has, mv_X8_has⟩
theorem cl_L_74 : zCV RL 74 yX8_line cX8_line 5 (some .int) 2 := ⟨⟨zi 1066 (by decide +kernel) rfl, mi_X8_line, mc_X8_line, mn_X8_line⟩, mm_X8_line, mv_X8_line⟩
theorem cl_L_78 : zCV RL 78 yX8_below cX8_below 3 (some .int) 2 := ⟨⟨zi 1070 (by decide +kernel) rfl, mi_X8_below, mc_X8_below, mn_X8_below⟩, mm_X8_below, mv_X8_below⟩
theorem cl_L_82 : zCV RL 82 yX8_unlike cX8_unlike 4 (some .int) 2 := ⟨⟨zi 1075 (by decide +kernel) rfl, mi_X8_unlike, mc_X8_unlike, mn_X8_unlike⟩, mm_X8_unlike, mv_X8_unlike⟩
theorem cl_L_86 : zCV RL 86 yX8_win cX8_win 3 (some .int) 2 := ⟨⟨zi 1079 (by decide +kernel) rfl, mi_X8_win, mc_X8_win, mn_X8_win⟩, mm_X8_win, mv_X8_win⟩
theorem cl_X8_197 : zCV RX8 197 yX8_between cX8_between 9 (some .int) 4 := ⟨⟨zi 1083 (by decide +kernel) rfl, mi_X8_between, mc_X8_between, mn_X8_between⟩, mm_X8_between, mv_X8_between⟩
theorem cl_X8_194 : zCV RX8 194 yX8_pointsOf cX8_pointsOf 6 (some .int) 2 := ⟨⟨zi 1087 (by decide +kernel) rfl, mi_X8_pointsOf, mc_X8_pointsOf, mn_X8_pointsOf⟩, mm_X8_pointsOf, mv_X8_pointsOf⟩
theorem cl_L_90 : zCV RL 90 yX8_best cX8_best 2 (some .int) 1 := ⟨⟨zi 1091 (by decide +kernel) rfl, mi_X8_best, mc_X8_best, mn_X8_best⟩, mm_X8_best, mv_X8_best⟩
theorem cl_X8_201 : zCV RX8 201 yX8_greatest cX8_greatest 6 (some .int) 2 := ⟨⟨zi 1095 (by decide +kernel) rfl, mi_X8_greatest, mc_X8_greatest, mn_X8_greatest⟩, mm_X8_greatest, mv_X8_greatest⟩
theorem cl_L_94 : zCV RL 94 yX8_still cX8_still 2 (some .int) 1 := ⟨⟨zi 1099 (by decide +kernel) rfl, mi_X8_still, mc_X8_still, mn_X8_still⟩, mm_X8_still, mv_X8_still⟩
theorem cl_X8_204 : zCV RX8 204 yX8_most cX8_most 3 (some .int) 0 := ⟨⟨zi 1103 (by decide +kernel) rfl, mi_X8_most, mc_X8_most, mn_X8_most⟩, mm_X8_most, mv_X8_most⟩
theorem cl_L_98 : zCV RL 98 yX8_could cX8_could 3 (some .int) 2 := ⟨⟨zi 1107 (by decide +kernel) rfl, mi_X8_could, mc_X8_could, mn_X8_could⟩, mm_X8_could, mv_X8_could⟩
theorem cl_L_102 : zCV RL 102 yX8_sure cX8_sure 3 (some .int) 2 := ⟨⟨zi 1112 (by decide +kernel) rfl, mi_X8_sure, mc_X8_sure, mn_X8_sure⟩, mm_X8_sure, mv_X8_sure⟩
theorem cl_X8_209 : zCV RX8 209 yX8_fewest cX8_fewest 3 (some .int) 0 := ⟨⟨zi 1116 (by decide +kernel) rfl, mi_X8_fewest, mc_X8_fewest, mn_X8_fewest⟩, mm_X8_fewest, mv_X8_fewest⟩
theorem cl_L_106 : zCV RL 106 yX8_house cX8_house 4 (some .int) 2 := ⟨⟨zi 1120 (by decide +kernel) rfl, mi_X8_house, mc_X8_house, mn_X8_house⟩, mm_X8_house, mv_X8_house⟩
theorem cl_L_111 : zCV RL 111 yX8_dividend cX8_dividend 7 (some .int) 3 := ⟨⟨zi 1124 (by decide +kernel) rfl, mi_X8_dividend, mc_X8_dividend, mn_X8_dividend⟩, mm_X8_dividend, mv_X8_dividend⟩
theorem cl_L_115 : zCV RL 115 yX8_repeal cX8_repeal 2 (some .int) 0 := ⟨⟨zi 1130 (by decide +kernel) rfl, mi_X8_repeal, mc_X8_repeal, mn_X8_repeal⟩, mm_X8_repeal, mv_X8_repeal⟩
theorem cl_X8_223 : zCV RX8 223 yX8_carried cX8_carried 4 (some .long) 0 := ⟨⟨zi 1134 (by decide +kernel) rfl, mi_X8_carried, mc_X8_carried, mn_X8_carried⟩, mm_X8_carried, mv_X8_carried⟩
theorem cl_L_120 : zCV RL 120 yX8_settle cX8_settle 22 (some .long) 0 := ⟨⟨zi 1138 (by decide +kernel) rfl, mi_X8_settle, mc_X8_settle, mn_X8_settle⟩, mm_X8_settle, mv_X8_settle⟩
theorem cl_X8_259 : zCV RX8 259 yX8_keepThen cX8_keepThen 2 none 0 := ⟨⟨zi 1142 (by decide +kernel) rfl, mi_X8_keepThen, mc_X8_keepThen, mn_X8_keepThen⟩, mm_X8_keepThen, mv_X8_keepThen⟩
theorem cl_X8_227 : zCS RX8 227 yX8_copy cX8_copy 3 none 2 := ⟨⟨zi 1146 (by decide +kernel) rfl, mi_X8_copy, mc_X8_copy, mn_X8_copy⟩, ms_X8_copy⟩
theorem cl_X8_234 : zCS RX8 234 yX8_copy_ cX8_copy_ 3 none 2 := ⟨⟨zi 1149 (by decide +kernel) rfl, mi_X8_copy_, mc_X8_copy_, mn_X8_copy_⟩, ms_X8_copy_⟩
theorem cl_X8_262 : zCV RX8 262 yX8_stakes cX8_stakes 4 (some .long) 0 := ⟨⟨zi 1152 (by decide +kernel) rfl, mi_X8_stakes, mc_X8_stakes, mn_X8_stakes⟩, mm_X8_stakes, mv_X8_stakes⟩
theorem cl_L_125 : zCV RL 125 yX8_count_ cX8_count_ 5 (some .long) 1 := ⟨⟨zi 1156 (by decide +kernel) rfl, mi_X8_count_, mc_X8_count_, mn_X8_count_⟩, mm_X8_count_, mv_X8_count_⟩
theorem cl_L_130 : zCV RL 130 yX8_divided cX8_divided 3 (some .long) 2 := ⟨⟨zi 1160 (by decide +kernel) rfl, mi_X8_divided, mc_X8_divided, mn_X8_divided⟩, mm_X8_divided, mv_X8_divided⟩
theorem cl_L_134 : zCV RL 134 yX8_prize cX8_prize 7 (some .long) 2 := ⟨⟨zi 1165 (by decide +kernel) rfl, mi_X8_prize, mc_X8_prize, mn_X8_prize⟩, mm_X8_prize, mv_X8_prize⟩
theorem cl_L_138 : zCV RL 138 yX8_undo cX8_undo 2 (some .int) 0 := ⟨⟨zi 1169 (by decide +kernel) rfl, mi_X8_undo, mc_X8_undo, mn_X8_undo⟩, mm_X8_undo, mv_X8_undo⟩
theorem ol_X7_1 : Cond.methodLink RX7 1 Lib.objectInit ∈ zW := zi 76 (by decide +kernel) rfl
theorem ol_X6_3 : Cond.methodLink RX6 3 Lib.objectInit ∈ zW := zi 84 (by decide +kernel) rfl
theorem ol_X4_3 : Cond.methodLink RX4 3 Lib.objectInit ∈ zW := zi 100 (by decide +kernel) rfl
theorem ol_X5_5 : Cond.methodLink RX5 5 Lib.objectInit ∈ zW := zi 132 (by decide +kernel) rfl
theorem ol_X0_3 : Cond.methodLink RX0 3 Lib.objectInit ∈ zW := zi 152 (by decide +kernel) rfl
theorem ol_X2_1 : Cond.methodLink RX2 1 Lib.objectInit ∈ zW := zi 164 (by decide +kernel) rfl
theorem ol_X3_3 : Cond.methodLink RX3 3 Lib.objectInit ∈ zW := zi 377 (by decide +kernel) rfl
theorem al_X3_15 : Cond.methodLink RX3 15 arraycopyName ∈ zW := zi 445 (by decide +kernel) rfl
theorem ol_X1_1 : Cond.methodLink RX1 1 Lib.objectInit ∈ zW := zi 453 (by decide +kernel) rfl
theorem xl_X3_58 : Cond.methodLink RX3 58 yJ9_min_7cf53 ∈ zW := zi 515 (by decide +kernel) rfl
theorem xl_X5_68 : Cond.methodLink RX5 68 yJ9_max_7cf53 ∈ zW := zi 575 (by decide +kernel) rfl
theorem xl_X7_248 : Cond.methodLink RX7 248 yJ9_max_7cf53 ∈ zW := zi 586 (by decide +kernel) rfl
theorem xl_X7_253 : Cond.methodLink RX7 253 yJ9_min_7cf53 ∈ zW := zi 603 (by decide +kernel) rfl
theorem al_X0_61 : Cond.methodLink RX0 61 arraycopyName ∈ zW := zi 651 (by decide +kernel) rfl
theorem xl_X2_33 : Cond.methodLink RX2 33 yJ9_min_f86c9 ∈ zW := zi 687 (by decide +kernel) rfl
theorem ol_X8_1 : Cond.methodLink RX8 1 Lib.objectInit ∈ zW := zi 811 (by decide +kernel) rfl
theorem ob_i : Cond.instanceMethod Lib.objectInit ∈ zW := zi 77 (by decide +kernel) rfl
theorem ob_c : Cond.code Lib.objectInit ⟨#[0xb1]⟩ 1 none ∈ zW := zi 78 rfl rfl
theorem ar_n : Cond.native arraycopyName ∈ zW := zi 447 (by decide +kernel) rfl
theorem ar_s : Cond.static arraycopyName ∈ zW := zi 446 (by decide +kernel) rfl
theorem ar_i : Cond.initialized "java/lang/System" ∈ zW := zi 64 (by decide +kernel) rfl
theorem kl_L_8 : Cond.classLink RL 8 RX7 ∈ zW := zi 71 (by decide +kernel) rfl
theorem nl_L_8 : zNL RL 8 7 [.null, .null, .null, .null, .null, .null, .int 0, .int 0, .int 0] 9 := ⟨_, _, tyX7, rfl, in_X7, kl_L_8, zi 72 (by decide +kernel) rfl, ini_X7, tyX7_ok, fun j hj => by rcases (show j = 0 ∨ j = 1 ∨ j = 2 ∨ j = 3 ∨ j = 4 ∨ j = 5 ∨ j = 6 ∨ j = 7 ∨ j = 8 by omega) with rfl | rfl | rfl | rfl | rfl | rfl | rfl | rfl | rfl <;> rfl⟩
theorem kl_X7_7 : Cond.classLink RX7 7 RX6 ∈ zW := zi 79 (by decide +kernel) rfl
theorem nl_X7_7 : zNL RX7 7 6 [.null, .int 0] 2 := ⟨_, _, tyX6, rfl, in_X6, kl_X7_7, zi 80 (by decide +kernel) rfl, ini_X6, tyX6_ok, fun j hj => by rcases (show j = 0 ∨ j = 1 by omega) with rfl | rfl <;> rfl⟩
theorem kl_X7_16 : Cond.classLink RX7 16 RX4 ∈ zW := zi 95 (by decide +kernel) rfl
theorem nl_X7_16 : zNL RX7 16 4 [.int 0, .int 0, .null, .null, .null, .int 0, .int 0] 7 := ⟨_, _, tyX4, rfl, in_X4, kl_X7_16, zi 96 (by decide +kernel) rfl, ini_X4, tyX4_ok, fun j hj => by rcases (show j = 0 ∨ j = 1 ∨ j = 2 ∨ j = 3 ∨ j = 4 ∨ j = 5 ∨ j = 6 by omega) with rfl | rfl | rfl | rfl | rfl | rfl | rfl <;> rfl⟩
theorem kl_X4_15 : Cond.classLink RX4 15 RX3 ∈ zW := zi 101 (by decide +kernel) rfl
theorem nl_X4_15 : zNL RX4 15 3 [.null] 1 := ⟨_, _, tyX3, rfl, in_X3, kl_X4_15, zi 373 (by decide +kernel) rfl, ini_X3, tyX3_ok, fun j hj => by rcases (show j = 0 by omega) with rfl <;> rfl⟩
theorem kl_X7_25 : Cond.classLink RX7 25 RX5 ∈ zW := zi 127 (by decide +kernel) rfl
theorem nl_X7_25 : zNL RX7 25 5 [.null, .null, .null, .null] 4 := ⟨_, _, tyX5, rfl, in_X5, kl_X7_25, zi 128 (by decide +kernel) rfl, ini_X5, tyX5_ok, fun j hj => by rcases (show j = 0 ∨ j = 1 ∨ j = 2 ∨ j = 3 by omega) with rfl | rfl | rfl | rfl <;> rfl⟩
theorem kl_X7_32 : Cond.classLink RX7 32 RX0 ∈ zW := zi 147 (by decide +kernel) rfl
theorem nl_X7_32 : zNL RX7 32 0 [.int 0, .long 0, .long 0, .null, .null, .int 0, .null, .int 0, .null, .null, .int 0] 11 := ⟨_, _, tyX0, rfl, in_X0, kl_X7_32, zi 148 (by decide +kernel) rfl, ini_X0, tyX0_ok, fun j hj => by rcases (show j = 0 ∨ j = 1 ∨ j = 2 ∨ j = 3 ∨ j = 4 ∨ j = 5 ∨ j = 6 ∨ j = 7 ∨ j = 8 ∨ j = 9 ∨ j = 10 by omega) with rfl | rfl | rfl | rfl | rfl | rfl | rfl | rfl | rfl | rfl | rfl <;> rfl⟩
theorem kl_X0_21 : Cond.classLink RX0 21 RX1 ∈ zW := zi 156 (by decide +kernel) rfl
theorem nl_X0_21 : zNL RX0 21 1 [.null, .int 0, .int 0, .int 0, .int 0] 5 := ⟨_, _, tyX1, rfl, in_X1, kl_X0_21, zi 449 (by decide +kernel) rfl, ini_X1, tyX1_ok, fun j hj => by rcases (show j = 0 ∨ j = 1 ∨ j = 2 ∨ j = 3 ∨ j = 4 by omega) with rfl | rfl | rfl | rfl | rfl <;> rfl⟩
theorem kl_X0_27 : Cond.classLink RX0 27 RX2 ∈ zW := zi 158 (by decide +kernel) rfl
theorem nl_X0_27 : zNL RX0 27 2 [.int 0, .int 0, .int 0, .long 0, .long 0, .long 0] 6 := ⟨_, _, tyX2, rfl, in_X2, kl_X0_27, zi 160 (by decide +kernel) rfl, ini_X2, tyX2_ok, fun j hj => by rcases (show j = 0 ∨ j = 1 ∨ j = 2 ∨ j = 3 ∨ j = 4 ∨ j = 5 by omega) with rfl | rfl | rfl | rfl | rfl | rfl <;> rfl⟩
theorem kl_X7_93 : Cond.classLink RX7 93 RX1 ∈ zW := zi 448 (by decide +kernel) rfl
theorem nl_X7_93 : zNL RX7 93 1 [.null, .int 0, .int 0, .int 0, .int 0] 5 := ⟨_, _, tyX1, rfl, in_X1, kl_X7_93, zi 449 (by decide +kernel) rfl, ini_X1, tyX1_ok, fun j hj => by rcases (show j = 0 ∨ j = 1 ∨ j = 2 ∨ j = 3 ∨ j = 4 by omega) with rfl | rfl | rfl | rfl | rfl <;> rfl⟩
theorem kl_L_16 : Cond.classLink RL 16 RX8 ∈ zW := zi 806 (by decide +kernel) rfl
theorem nl_L_16 : zNL RL 16 8 [.null, .null, .null, .null, .int 0, .int 0, .int 0, .null, .null, .null, .null, .int 0, .int 0, .int 0, .null, .int 0, .int 0, .long 0, .long 0, .null, .null, .int 0, .int 0, .null, .null, .null, .null, .null, .null, .int 0, .null, .int 0, .long 0, .long 0, .null, .null, .int 0, .null, .null, .null, .int 0, .int 0, .int 0, .int 0] 44 := ⟨_, _, tyX8, rfl, in_X8, kl_L_16, zi 807 (by decide +kernel) rfl, ini_X8, tyX8_ok, fun j hj => by rcases (show j = 0 ∨ j = 1 ∨ j = 2 ∨ j = 3 ∨ j = 4 ∨ j = 5 ∨ j = 6 ∨ j = 7 ∨ j = 8 ∨ j = 9 ∨ j = 10 ∨ j = 11 ∨ j = 12 ∨ j = 13 ∨ j = 14 ∨ j = 15 ∨ j = 16 ∨ j = 17 ∨ j = 18 ∨ j = 19 ∨ j = 20 ∨ j = 21 ∨ j = 22 ∨ j = 23 ∨ j = 24 ∨ j = 25 ∨ j = 26 ∨ j = 27 ∨ j = 28 ∨ j = 29 ∨ j = 30 ∨ j = 31 ∨ j = 32 ∨ j = 33 ∨ j = 34 ∨ j = 35 ∨ j = 36 ∨ j = 37 ∨ j = 38 ∨ j = 39 ∨ j = 40 ∨ j = 41 ∨ j = 42 ∨ j = 43 by omega) with rfl | rfl | rfl | rfl | rfl | rfl | rfl | rfl | rfl | rfl | rfl | rfl | rfl | rfl | rfl | rfl | rfl | rfl | rfl | rfl | rfl | rfl | rfl | rfl | rfl | rfl | rfl | rfl | rfl | rfl | rfl | rfl | rfl | rfl | rfl | rfl | rfl | rfl | rfl | rfl | rfl | rfl | rfl | rfl <;> rfl⟩
theorem kc_J6_265 : Cond.constant RJ6 265 (1431655765) ∈ zW := zi 366 (by decide +kernel) rfl
theorem kc_J6_266 : Cond.constant RJ6 266 (858993459) ∈ zW := zi 367 (by decide +kernel) rfl
theorem kc_J6_267 : Cond.constant RJ6 267 (252645135) ∈ zW := zi 368 (by decide +kernel) rfl
theorem kc_J6_264 : Cond.constant RJ6 264 (65536) ∈ zW := zi 428 (by decide +kernel) rfl
theorem kc_X7_180 : Cond.constant RX7 180 (1000000) ∈ zW := zi 612 (by decide +kernel) rfl
theorem kc_X8_79 : Cond.constant RX8 79 (262144) ∈ zW := zi 812 (by decide +kernel) rfl
theorem kc_X3_33 : Cond.constantLong RX3 33 (-1) ∈ zW := zi 407 (by decide +kernel) rfl
theorem kc_J13_314 : Cond.constantLong RJ13 314 (6148914691236517205) ∈ zW := zi 419 (by decide +kernel) rfl
theorem kc_J13_316 : Cond.constantLong RJ13 316 (3689348814741910323) ∈ zW := zi 420 (by decide +kernel) rfl
theorem kc_J13_318 : Cond.constantLong RJ13 318 (1085102592571150095) ∈ zW := zi 421 (by decide +kernel) rfl
theorem kc_X5_63 : Cond.constantLong RX5 63 (-1) ∈ zW := zi 557 (by decide +kernel) rfl
theorem kc_X7_190 : Cond.constantLong RX7 190 (-1) ∈ zW := zi 646 (by decide +kernel) rfl
theorem kc_X0_110 : Cond.constantLong RX0 110 (100) ∈ zW := zi 669 (by decide +kernel) rfl
theorem kc_X0_149 : Cond.constantLong RX0 149 (-1) ∈ zW := zi 713 (by decide +kernel) rfl
theorem kc_X8_92 : Cond.constantLong RX8 92 (13) ∈ zW := zi 955 (by decide +kernel) rfl
theorem kc_X8_98 : Cond.constantLong RX8 98 (20) ∈ zW := zi 959 (by decide +kernel) rfl
theorem kc_X8_100 : Cond.constantLong RX8 100 (-1) ∈ zW := zi 964 (by decide +kernel) rfl
theorem kc_X8_102 : Cond.constantLong RX8 102 (3) ∈ zW := zi 965 (by decide +kernel) rfl
theorem kc_X8_108 : Cond.constantLong RX8 108 (9) ∈ zW := zi 978 (by decide +kernel) rfl
theorem kc_X8_175 : Cond.constantLong RX8 175 (100) ∈ zW := zi 995 (by decide +kernel) rfl
theorem kc_X8_186 : Cond.constantLong RX8 186 (6) ∈ zW := zi 1057 (by decide +kernel) rfl
theorem kc_X8_192 : Cond.constantLong RX8 192 (16384) ∈ zW := zi 1074 (by decide +kernel) rfl
theorem kc_X8_207 : Cond.constantLong RX8 207 (1000) ∈ zW := zi 1111 (by decide +kernel) rfl
theorem kc_X8_215 : Cond.constantLong RX8 215 (90) ∈ zW := zi 1128 (by decide +kernel) rfl
theorem kc_X8_217 : Cond.constantLong RX8 217 (1000000) ∈ zW := zi 1129 (by decide +kernel) rfl
theorem kc_X8_268 : Cond.constantLong RX8 268 (5) ∈ zW := zi 1164 (by decide +kernel) rfl
theorem ac_int : Cond.arrayClass .int ∈ zW := zi 94 (by decide +kernel) rfl
theorem ac_long : Cond.arrayClass .long ∈ zW := zi 146 (by decide +kernel) rfl
theorem ac_boolean : Cond.arrayClass .boolean ∈ zW := zi 946 (by decide +kernel) rfl
