-- small helps of the walks; constants, links
def mj_fu : Nat := 5000
def mj_fd : Nat := 100
def mj_let {α β : Type} (x : α) (f : α → β) : β := f x
theorem mj_letE {α β : Type} {x : α} {f : α → β} {r : β} (h : mj_let x f = r) : f x = r := h
theorem mj_oi {α : Type} {a b : α} (h : some a = some b) : a = b := Option.some.inj h
theorem mj_oz {α : Type} {y : Int32} {x : Option α} {r : α} (h : (if y = 0 then none else x) = some r) : ¬ y = 0 ∧ x = some r := by
  by_cases hc : y = 0
  · rw [if_pos hc] at h; cases h
  · rw [if_neg hc] at h; exact ⟨hc, h⟩
theorem mj_roomC {dc d mx : Nat} (h : dc + 1 ≤ d) (h2 : mx ≤ 45) : dc + 1 ≤ (mj_rm d).frames ∧ 8 + (mx + 11) + 64 * dc ≤ (mj_rm d).locals := ⟨h, by show _ ≤ 64 * d; omega⟩
theorem mj_roomR {dc D k mx : Nat} (h : dc ≤ D) (h2 : mx ≤ 45) : dc + 1 ≤ (mj_rm (D + (k + 1))).frames ∧ 8 + (mx + 11) + 64 * dc ≤ (mj_rm (D + (k + 1))).locals := mj_roomC (by omega) h2
theorem mj_roomK {D k mx : Nat} (h2 : mx ≤ 45) : D + k + 1 ≤ (mj_rm (D + (k + 1))).frames ∧ 8 + (mx + 11) + 64 * (D + k) ≤ (mj_rm (D + (k + 1))).locals := mj_roomC (by omega) h2
theorem mj_room13 {d s : Nat} (h : 1 ≤ d) (h2 : s ≤ 8) : 1 ≤ (mj_rm d).frames ∧ s + 13 ≤ (mj_rm d).locals := ⟨h, by show _ ≤ 64 * d; omega⟩
theorem mj_roomCp {d s : Nat} (h : 1 ≤ d) (h2 : s ≤ 8) : 1 ≤ (mj_rm d).frames ∧ s + (nativeFrameWords "java/lang/System" "arraycopy" 5 + 11) ≤ (mj_rm d).locals := ⟨h, by
  show _ ≤ 64 * d
  have : nativeFrameWords "java/lang/System" "arraycopy" 5 = 7 := by decide +kernel
  omega⟩
theorem mj_sw_0_4 {x : Int32} (h0 : ¬ x = 0) (h1 : ¬ x = 1) (h2 : ¬ x = 2) (h3 : ¬ x = 3) : x.toInt < 0 ∨ 3 < x.toInt := by
  have g0 : ¬ x.toInt = 0 := lv_neT h0 rfl
  have g1 : ¬ x.toInt = 1 := lv_neT h1 rfl
  have g2 : ¬ x.toInt = 2 := lv_neT h2 rfl
  have g3 : ¬ x.toInt = 3 := lv_neT h3 rfl
  omega
theorem mj_sw_0_5 {x : Int32} (h0 : ¬ x = 0) (h1 : ¬ x = 1) (h2 : ¬ x = 2) (h3 : ¬ x = 3) (h4 : ¬ x = 4) : x.toInt < 0 ∨ 4 < x.toInt := by
  have g0 : ¬ x.toInt = 0 := lv_neT h0 rfl
  have g1 : ¬ x.toInt = 1 := lv_neT h1 rfl
  have g2 : ¬ x.toInt = 2 := lv_neT h2 rfl
  have g3 : ¬ x.toInt = 3 := lv_neT h3 rfl
  have g4 : ¬ x.toInt = 4 := lv_neT h4 rfl
  omega
theorem mj_sw_0_7 {x : Int32} (h0 : ¬ x = 0) (h1 : ¬ x = 1) (h2 : ¬ x = 2) (h3 : ¬ x = 3) (h4 : ¬ x = 4) (h5 : ¬ x = 5) (h6 : ¬ x = 6) : x.toInt < 0 ∨ 6 < x.toInt := by
  have g0 : ¬ x.toInt = 0 := lv_neT h0 rfl
  have g1 : ¬ x.toInt = 1 := lv_neT h1 rfl
  have g2 : ¬ x.toInt = 2 := lv_neT h2 rfl
  have g3 : ¬ x.toInt = 3 := lv_neT h3 rfl
  have g4 : ¬ x.toInt = 4 := lv_neT h4 rfl
  have g5 : ¬ x.toInt = 5 := lv_neT h5 rfl
  have g6 : ¬ x.toInt = 6 := lv_neT h6 rfl
  omega
theorem mj_sw_1_4 {x : Int32} (h0 : ¬ x = 1) (h1 : ¬ x = 2) (h2 : ¬ x = 3) (h3 : ¬ x = 4) : x.toInt < 1 ∨ 4 < x.toInt := by
  have g0 : ¬ x.toInt = 1 := lv_neT h0 rfl
  have g1 : ¬ x.toInt = 2 := lv_neT h1 rfl
  have g2 : ¬ x.toInt = 3 := lv_neT h2 rfl
  have g3 : ¬ x.toInt = 4 := lv_neT h3 rfl
  omega
theorem mj_sw_97_23 {x : Int32} (h0 : ¬ x = 97) (h1 : ¬ x = 98) (h2 : ¬ x = 99) (h3 : ¬ x = 100) (h4 : ¬ x = 101) (h5 : ¬ x = 102) (h6 : ¬ x = 103) (h7 : ¬ x = 104) (h8 : ¬ x = 105) (h9 : ¬ x = 106) (h10 : ¬ x = 107) (h11 : ¬ x = 108) (h12 : ¬ x = 109) (h13 : ¬ x = 110) (h14 : ¬ x = 111) (h15 : ¬ x = 112) (h16 : ¬ x = 113) (h17 : ¬ x = 114) (h18 : ¬ x = 115) (h19 : ¬ x = 116) (h20 : ¬ x = 117) (h21 : ¬ x = 118) (h22 : ¬ x = 119) : x.toInt < 97 ∨ 119 < x.toInt := by
  have g0 : ¬ x.toInt = 97 := lv_neT h0 rfl
  have g1 : ¬ x.toInt = 98 := lv_neT h1 rfl
  have g2 : ¬ x.toInt = 99 := lv_neT h2 rfl
  have g3 : ¬ x.toInt = 100 := lv_neT h3 rfl
  have g4 : ¬ x.toInt = 101 := lv_neT h4 rfl
  have g5 : ¬ x.toInt = 102 := lv_neT h5 rfl
  have g6 : ¬ x.toInt = 103 := lv_neT h6 rfl
  have g7 : ¬ x.toInt = 104 := lv_neT h7 rfl
  have g8 : ¬ x.toInt = 105 := lv_neT h8 rfl
  have g9 : ¬ x.toInt = 106 := lv_neT h9 rfl
  have g10 : ¬ x.toInt = 107 := lv_neT h10 rfl
  have g11 : ¬ x.toInt = 108 := lv_neT h11 rfl
  have g12 : ¬ x.toInt = 109 := lv_neT h12 rfl
  have g13 : ¬ x.toInt = 110 := lv_neT h13 rfl
  have g14 : ¬ x.toInt = 111 := lv_neT h14 rfl
  have g15 : ¬ x.toInt = 112 := lv_neT h15 rfl
  have g16 : ¬ x.toInt = 113 := lv_neT h16 rfl
  have g17 : ¬ x.toInt = 114 := lv_neT h17 rfl
  have g18 : ¬ x.toInt = 115 := lv_neT h18 rfl
  have g19 : ¬ x.toInt = 116 := lv_neT h19 rfl
  have g20 : ¬ x.toInt = 117 := lv_neT h20 rfl
  have g21 : ¬ x.toInt = 118 := lv_neT h21 rfl
  have g22 : ¬ x.toInt = 119 := lv_neT h22 rfl
  omega
theorem mj_row_18 {i : Int32} (h : 0 ≤ i.toInt ∧ i.toInt < 6) : mj_il (18 + 1 + i.toNatClampNeg) = some 600 := by
  have h2 : i.toNatClampNeg = i.toInt.toNat := rfl
  obtain ⟨j, hj⟩ : ∃ j, j = i.toNatClampNeg := ⟨_, rfl⟩
  rw [← hj]
  have h3 : j < 6 := by omega
  clear hj h2 h
  match j, h3 with
  | 0, _ => rfl
  | 1, _ => rfl
  | 2, _ => rfl
  | 3, _ => rfl
  | 4, _ => rfl
  | 5, _ => rfl
theorem mj_row_25 {i : Int32} (h : 0 ≤ i.toInt ∧ i.toInt < 6) : mj_il (25 + 1 + i.toNatClampNeg) = some 600 := by
  have h2 : i.toNatClampNeg = i.toInt.toNat := rfl
  obtain ⟨j, hj⟩ : ∃ j, j = i.toNatClampNeg := ⟨_, rfl⟩
  rw [← hj]
  have h3 : j < 6 := by omega
  clear hj h2 h
  match j, h3 with
  | 0, _ => rfl
  | 1, _ => rfl
  | 2, _ => rfl
  | 3, _ => rfl
  | 4, _ => rfl
  | 5, _ => rfl
theorem mj_row_57 {i : Int32} (h : 0 ≤ i.toInt ∧ i.toInt < 6) : mj_ll (57 + 1 + i.toNatClampNeg) = some 60 := by
  have h2 : i.toNatClampNeg = i.toInt.toNat := rfl
  obtain ⟨j, hj⟩ : ∃ j, j = i.toNatClampNeg := ⟨_, rfl⟩
  rw [← hj]
  have h3 : j < 6 := by omega
  clear hj h2 h
  match j, h3 with
  | 0, _ => rfl
  | 1, _ => rfl
  | 2, _ => rfl
  | 3, _ => rfl
  | 4, _ => rfl
  | 5, _ => rfl
theorem mc_b_m100 : (Int8.ofInt (-100)).toInt32 = ((-100) : Int32) := by decide
theorem mc_b_m11 : (Int8.ofInt (-11)).toInt32 = ((-11) : Int32) := by decide
theorem mc_b_m12 : (Int8.ofInt (-12)).toInt32 = ((-12) : Int32) := by decide
theorem mc_b_m13 : (Int8.ofInt (-13)).toInt32 = ((-13) : Int32) := by decide
theorem mc_b_m14 : (Int8.ofInt (-14)).toInt32 = ((-14) : Int32) := by decide
theorem mc_b_m2 : (Int8.ofInt (-2)).toInt32 = ((-2) : Int32) := by decide
theorem mc_b_m24 : (Int8.ofInt (-24)).toInt32 = ((-24) : Int32) := by decide
theorem mc_b_m3 : (Int8.ofInt (-3)).toInt32 = ((-3) : Int32) := by decide
theorem mc_b_m5 : (Int8.ofInt (-5)).toInt32 = ((-5) : Int32) := by decide
theorem mc_b_10 : (Int8.ofInt 10).toInt32 = (10 : Int32) := by decide
theorem mc_b_100 : (Int8.ofInt 100).toInt32 = (100 : Int32) := by decide
theorem mc_b_11 : (Int8.ofInt 11).toInt32 = (11 : Int32) := by decide
theorem mc_b_110 : (Int8.ofInt 110).toInt32 = (110 : Int32) := by decide
theorem mc_b_12 : (Int8.ofInt 12).toInt32 = (12 : Int32) := by decide
theorem mc_b_120 : (Int8.ofInt 120).toInt32 = (120 : Int32) := by decide
theorem mc_b_121 : (Int8.ofInt 121).toInt32 = (121 : Int32) := by decide
theorem mc_b_124 : (Int8.ofInt 124).toInt32 = (124 : Int32) := by decide
theorem mc_b_13 : (Int8.ofInt 13).toInt32 = (13 : Int32) := by decide
theorem mc_b_14 : (Int8.ofInt 14).toInt32 = (14 : Int32) := by decide
theorem mc_b_15 : (Int8.ofInt 15).toInt32 = (15 : Int32) := by decide
theorem mc_b_16 : (Int8.ofInt 16).toInt32 = (16 : Int32) := by decide
theorem mc_b_20 : (Int8.ofInt 20).toInt32 = (20 : Int32) := by decide
theorem mc_b_24 : (Int8.ofInt 24).toInt32 = (24 : Int32) := by decide
theorem mc_b_30 : (Int8.ofInt 30).toInt32 = (30 : Int32) := by decide
theorem mc_b_32 : (Int8.ofInt 32).toInt32 = (32 : Int32) := by decide
theorem mc_b_33 : (Int8.ofInt 33).toInt32 = (33 : Int32) := by decide
theorem mc_b_37 : (Int8.ofInt 37).toInt32 = (37 : Int32) := by decide
theorem mc_b_38 : (Int8.ofInt 38).toInt32 = (38 : Int32) := by decide
theorem mc_b_39 : (Int8.ofInt 39).toInt32 = (39 : Int32) := by decide
theorem mc_b_40 : (Int8.ofInt 40).toInt32 = (40 : Int32) := by decide
theorem mc_b_41 : (Int8.ofInt 41).toInt32 = (41 : Int32) := by decide
theorem mc_b_42 : (Int8.ofInt 42).toInt32 = (42 : Int32) := by decide
theorem mc_b_43 : (Int8.ofInt 43).toInt32 = (43 : Int32) := by decide
theorem mc_b_45 : (Int8.ofInt 45).toInt32 = (45 : Int32) := by decide
theorem mc_b_47 : (Int8.ofInt 47).toInt32 = (47 : Int32) := by decide
theorem mc_b_48 : (Int8.ofInt 48).toInt32 = (48 : Int32) := by decide
theorem mc_b_50 : (Int8.ofInt 50).toInt32 = (50 : Int32) := by decide
theorem mc_b_51 : (Int8.ofInt 51).toInt32 = (51 : Int32) := by decide
theorem mc_b_57 : (Int8.ofInt 57).toInt32 = (57 : Int32) := by decide
theorem mc_b_59 : (Int8.ofInt 59).toInt32 = (59 : Int32) := by decide
theorem mc_b_6 : (Int8.ofInt 6).toInt32 = (6 : Int32) := by decide
theorem mc_b_60 : (Int8.ofInt 60).toInt32 = (60 : Int32) := by decide
theorem mc_b_61 : (Int8.ofInt 61).toInt32 = (61 : Int32) := by decide
theorem mc_b_62 : (Int8.ofInt 62).toInt32 = (62 : Int32) := by decide
theorem mc_b_63 : (Int8.ofInt 63).toInt32 = (63 : Int32) := by decide
theorem mc_b_64 : (Int8.ofInt 64).toInt32 = (64 : Int32) := by decide
theorem mc_b_7 : (Int8.ofInt 7).toInt32 = (7 : Int32) := by decide
theorem mc_b_70 : (Int8.ofInt 70).toInt32 = (70 : Int32) := by decide
theorem mc_b_8 : (Int8.ofInt 8).toInt32 = (8 : Int32) := by decide
theorem mc_b_80 : (Int8.ofInt 80).toInt32 = (80 : Int32) := by decide
theorem mc_b_81 : (Int8.ofInt 81).toInt32 = (81 : Int32) := by decide
theorem mc_b_9 : (Int8.ofInt 9).toInt32 = (9 : Int32) := by decide
theorem mc_b_97 : (Int8.ofInt 97).toInt32 = (97 : Int32) := by decide
theorem mc_b_99 : (Int8.ofInt 99).toInt32 = (99 : Int32) := by decide
theorem mc_i_m1 : Int32.ofInt (-1) = ((-1) : Int32) := by decide
theorem mc_i_0 : Int32.ofInt 0 = (0 : Int32) := by decide
theorem mc_i_1 : Int32.ofInt 1 = (1 : Int32) := by decide
theorem mc_i_2 : Int32.ofInt 2 = (2 : Int32) := by decide
theorem mc_i_3 : Int32.ofInt 3 = (3 : Int32) := by decide
theorem mc_i_4 : Int32.ofInt 4 = (4 : Int32) := by decide
theorem mc_i_5 : Int32.ofInt 5 = (5 : Int32) := by decide
theorem mc_l_0 : Int64.ofNat ((0 : Fin 2) : Nat) = (0 : Int64) := by decide
theorem mc_l_1 : Int64.ofNat ((1 : Fin 2) : Nat) = (1 : Int64) := by decide
theorem mc_s_m1000 : (Int16.ofInt (-1000)).toInt32 = ((-1000) : Int32) := by decide
theorem mc_s_m160 : (Int16.ofInt (-160)).toInt32 = ((-160) : Int32) := by decide
theorem mc_s_1000 : (Int16.ofInt 1000).toInt32 = (1000 : Int32) := by decide
theorem mc_s_10000 : (Int16.ofInt 10000).toInt32 = (10000 : Int32) := by decide
theorem mc_s_12345 : (Int16.ofInt 12345).toInt32 = (12345 : Int32) := by decide
theorem mc_s_128 : (Int16.ofInt 128).toInt32 = (128 : Int32) := by decide
theorem mc_s_1280 : (Int16.ofInt 1280).toInt32 = (1280 : Int32) := by decide
theorem mc_s_132 : (Int16.ofInt 132).toInt32 = (132 : Int32) := by decide
theorem mc_s_160 : (Int16.ofInt 160).toInt32 = (160 : Int32) := by decide
theorem mc_s_168 : (Int16.ofInt 168).toInt32 = (168 : Int32) := by decide
theorem mc_s_2000 : (Int16.ofInt 2000).toInt32 = (2000 : Int32) := by decide
theorem mc_s_204 : (Int16.ofInt 204).toInt32 = (204 : Int32) := by decide
theorem mc_s_240 : (Int16.ofInt 240).toInt32 = (240 : Int32) := by decide
theorem mc_s_255 : (Int16.ofInt 255).toInt32 = (255 : Int32) := by decide
theorem mc_s_3000 : (Int16.ofInt 3000).toInt32 = (3000 : Int32) := by decide
theorem mc_s_3600 : (Int16.ofInt 3600).toInt32 = (3600 : Int32) := by decide
theorem mc_s_4300 : (Int16.ofInt 4300).toInt32 = (4300 : Int32) := by decide
theorem mc_s_500 : (Int16.ofInt 500).toInt32 = (500 : Int32) := by decide
theorem mc_s_599 : (Int16.ofInt 599).toInt32 = (599 : Int32) := by decide
theorem mc_s_600 : (Int16.ofInt 600).toInt32 = (600 : Int32) := by decide
theorem mc_s_6000 : (Int16.ofInt 6000).toInt32 = (6000 : Int32) := by decide
theorem mc_s_8000 : (Int16.ofInt 8000).toInt32 = (8000 : Int32) := by decide
theorem mc_s_9999 : (Int16.ofInt 9999).toInt32 = (9999 : Int32) := by decide
theorem kc_X9_173 : Cond.constant RX9 173 (-2000000000) ∈ mj_TB := mj_t3 207 (by decide +kernel) rfl
theorem kc_X1_65 : Cond.constant RX1 65 (-2000000000) ∈ mj_TB := mj_t3 227 (by decide +kernel) rfl
theorem kc_X2_71 : Cond.constant RX2 71 (-2000000000) ∈ mj_TB := mj_t3 206 (by decide +kernel) rfl
theorem kc_X3_128 : Cond.constant RX3 128 1103515245 ∈ mj_TB := mj_t5 30 (by decide +kernel) rfl
theorem kc_X5_51 : Cond.constant RX5 51 (-2000000000) ∈ mj_TB := mj_t3 201 (by decide +kernel) rfl
theorem kc_X10_259 : Cond.constant RX10 259 (-2000000000) ∈ mj_TB := mj_t7 38 (by decide +kernel) rfl
theorem kc_X10_335 : Cond.constant RX10 335 1103515245 ∈ mj_TB := mj_t7 166 (by decide +kernel) rfl
theorem kc_X9_317 : Cond.constantLong RX9 317 (-9223372036854775808) ∈ mj_TB := mj_t5 162 (by decide +kernel) rfl
theorem kc_X10_114 : Cond.constantLong RX10 114 599 ∈ mj_TB := mj_t6 122 (by decide +kernel) rfl
theorem kc_X10_116 : Cond.constantLong RX10 116 (-24) ∈ mj_TB := mj_t6 131 (by decide +kernel) rfl
theorem kc_X10_118 : Cond.constantLong RX10 118 24 ∈ mj_TB := mj_t6 132 (by decide +kernel) rfl
theorem kc_X10_120 : Cond.constantLong RX10 120 3000 ∈ mj_TB := mj_t6 136 (by decide +kernel) rfl
theorem kc_X10_122 : Cond.constantLong RX10 122 6000 ∈ mj_TB := mj_t6 137 (by decide +kernel) rfl
theorem kc_X10_128 : Cond.constantLong RX10 128 500 ∈ mj_TB := mj_t6 126 (by decide +kernel) rfl
theorem kc_X10_130 : Cond.constantLong RX10 130 2000 ∈ mj_TB := mj_t6 127 (by decide +kernel) rfl
theorem kc_X10_141 : Cond.constantLong RX10 141 9 ∈ mj_TB := mj_t6 145 (by decide +kernel) rfl
theorem kc_X10_154 : Cond.constantLong RX10 154 255 ∈ mj_TB := mj_t6 162 (by decide +kernel) rfl
theorem kc_X10_229 : Cond.constantLong RX10 229 9999 ∈ mj_TB := mj_t7 1 (by decide +kernel) rfl
theorem kc_X10_231 : Cond.constantLong RX10 231 6 ∈ mj_TB := mj_t7 2 (by decide +kernel) rfl
theorem kc_X10_233 : Cond.constantLong RX10 233 600 ∈ mj_TB := mj_t7 3 (by decide +kernel) rfl
theorem kc_X10_235 : Cond.constantLong RX10 235 4 ∈ mj_TB := mj_t7 4 (by decide +kernel) rfl
theorem kc_X10_248 : Cond.constantLong RX10 248 15 ∈ mj_TB := mj_t7 17 (by decide +kernel) rfl
theorem kc_X10_260 : Cond.constantLong RX10 260 10 ∈ mj_TB := mj_t7 39 (by decide +kernel) rfl
theorem kc_X10_262 : Cond.constantLong RX10 262 14 ∈ mj_TB := mj_t7 40 (by decide +kernel) rfl
theorem kc_X10_300 : Cond.constantLong RX10 300 2 ∈ mj_TB := mj_t7 75 (by decide +kernel) rfl
theorem kc_X10_325 : Cond.constantLong RX10 325 3 ∈ mj_TB := mj_t7 136 (by decide +kernel) rfl
theorem kc_X10_333 : Cond.constantLong RX10 333 50 ∈ mj_TB := mj_t7 165 (by decide +kernel) rfl
theorem kc_X10_342 : Cond.constantLong RX10 342 7 ∈ mj_TB := mj_t7 175 (by decide +kernel) rfl
theorem kc_X10_371 : Cond.constantLong RX10 371 5 ∈ mj_TB := mj_t7 16 (by decide +kernel) rfl
theorem kc_X10_382 : Cond.constantLong RX10 382 (-9223372036854775808) ∈ mj_TB := mj_t7 231 (by decide +kernel) rfl
theorem kl_X9_78 : Cond.methodLink RX9 78 yX9_isMonth ∈ mj_TB := mj_t2 81 (by decide +kernel) rfl
theorem kl_X9_82 : Cond.methodLink RX9 82 yX9_within ∈ mj_TB := mj_t2 84 (by decide +kernel) rfl
theorem kl_X9_86 : Cond.methodLink RX9 86 yX9_isLate ∈ mj_TB := mj_t2 87 (by decide +kernel) rfl
theorem kl_X9_89 : Cond.methodLink RX9 89 yX9_isParents ∈ mj_TB := mj_t2 90 (by decide +kernel) rfl
theorem kl_X9_92 : Cond.methodLink RX9 92 yX2_size ∈ mj_TB := mj_t2 93 (by decide +kernel) rfl
theorem kl_X9_96 : Cond.methodLink RX9 96 yX2_add ∈ mj_TB := mj_t2 97 (by decide +kernel) rfl
theorem kl_X9_100 : Cond.methodLink RX9 100 yX2_refresh ∈ mj_TB := mj_t2 101 (by decide +kernel) rfl
theorem kl_X9_103 : Cond.methodLink RX9 103 yX9_isSpan ∈ mj_TB := mj_t2 150 (by decide +kernel) rfl
theorem kl_X9_106 : Cond.methodLink RX9 106 yX2_wantsTold ∈ mj_TB := mj_t2 153 (by decide +kernel) rfl
theorem kl_X9_109 : Cond.methodLink RX9 109 yX2_addWant ∈ mj_TB := mj_t2 157 (by decide +kernel) rfl
theorem kl_X9_113 : Cond.methodLink RX9 113 yX7_tapeLength ∈ mj_TB := mj_t2 173 (by decide +kernel) rfl
theorem kl_X9_116 : Cond.methodLink RX9 116 yX7_take ∈ mj_TB := mj_t2 177 (by decide +kernel) rfl
theorem kl_X9_120 : Cond.methodLink RX9 120 yX7_read ∈ mj_TB := mj_t2 185 (by decide +kernel) rfl
theorem kl_X9_123 : Cond.methodLink RX9 123 yX7_giveTo ∈ mj_TB := mj_t3 74 (by decide +kernel) rfl
theorem kl_X9_126 : Cond.methodLink RX9 126 yX2_forgetHeights ∈ mj_TB := mj_t3 82 (by decide +kernel) rfl
theorem kl_X9_129 : Cond.methodLink RX9 129 yX7_emptyTape ∈ mj_TB := mj_t3 83 (by decide +kernel) rfl
theorem kl_X9_132 : Cond.methodLink RX9 132 yX2_has ∈ mj_TB := mj_t3 92 (by decide +kernel) rfl
theorem kl_X9_135 : Cond.methodLink RX9 135 yX2_heightAt ∈ mj_TB := mj_t3 96 (by decide +kernel) rfl
theorem kl_X9_139 : Cond.methodLink RX9 139 yX2_wantAt ∈ mj_TB := mj_t3 105 (by decide +kernel) rfl
theorem kl_X9_142 : Cond.methodLink RX9 142 yX9_isMark ∈ mj_TB := mj_t3 114 (by decide +kernel) rfl
theorem kl_X9_146 : Cond.methodLink RX9 146 yX5_size ∈ mj_TB := mj_t3 117 (by decide +kernel) rfl
theorem kl_X9_147 : Cond.methodLink RX9 147 yX5_add ∈ mj_TB := mj_t3 121 (by decide +kernel) rfl
theorem kl_X9_150 : Cond.methodLink RX9 150 yX8_has ∈ mj_TB := mj_t3 129 (by decide +kernel) rfl
theorem kl_X9_151 : Cond.methodLink RX9 151 yX8_holdsNothing ∈ mj_TB := mj_t3 133 (by decide +kernel) rfl
theorem kl_X9_154 : Cond.methodLink RX9 154 yX8_holdsShorts ∈ mj_TB := mj_t3 138 (by decide +kernel) rfl
theorem kl_X9_157 : Cond.methodLink RX9 157 yX9_markFromRow ∈ mj_TB := mj_t3 142 (by decide +kernel) rfl
theorem kl_X9_161 : Cond.methodLink RX9 161 yX5_cover ∈ mj_TB := mj_t3 159 (by decide +kernel) rfl
theorem kl_X9_165 : Cond.methodLink RX9 165 yX5_covered ∈ mj_TB := mj_t3 164 (by decide +kernel) rfl
theorem kl_X9_168 : Cond.methodLink RX9 168 yX5_has ∈ mj_TB := mj_t3 184 (by decide +kernel) rfl
theorem kl_X9_169 : Cond.methodLink RX9 169 yX5_told ∈ mj_TB := mj_t3 185 (by decide +kernel) rfl
theorem kl_X9_172 : Cond.methodLink RX9 172 yX2_told ∈ mj_TB := mj_t3 202 (by decide +kernel) rfl
theorem kl_X9_174 : Cond.methodLink RX9 174 yX9_isMendable ∈ mj_TB := mj_t3 212 (by decide +kernel) rfl
theorem kl_X9_177 : Cond.methodLink RX9 177 yX1_change ∈ mj_TB := mj_t3 216 (by decide +kernel) rfl
theorem kl_X9_180 : Cond.methodLink RX9 180 yX9_isMarkAndChild ∈ mj_TB := mj_t4 23 (by decide +kernel) rfl
theorem kl_X9_183 : Cond.methodLink RX9 183 yX5_heightOf ∈ mj_TB := mj_t4 27 (by decide +kernel) rfl
theorem kl_X9_186 : Cond.methodLink RX9 186 yX3_distance ∈ mj_TB := mj_t4 28 (by decide +kernel) rfl
theorem kl_X9_189 : Cond.methodLink RX9 189 yX3_findFor ∈ mj_TB := mj_t4 48 (by decide +kernel) rfl
theorem kl_X9_192 : Cond.methodLink RX9 192 yX3_foundChild ∈ mj_TB := mj_t4 64 (by decide +kernel) rfl
theorem kl_X9_195 : Cond.methodLink RX9 195 yX3_foundMonth ∈ mj_TB := mj_t4 68 (by decide +kernel) rfl
theorem kl_X9_198 : Cond.methodLink RX9 198 yX3_foundDistance ∈ mj_TB := mj_t4 72 (by decide +kernel) rfl
theorem kl_X9_201 : Cond.methodLink RX9 201 yX3_chance ∈ mj_TB := mj_t4 80 (by decide +kernel) rfl
theorem kl_X9_204 : Cond.methodLink RX9 204 yX3_likeliestWay ∈ mj_TB := mj_t4 92 (by decide +kernel) rfl
theorem kl_X9_207 : Cond.methodLink RX9 207 yX3_wrongWay ∈ mj_TB := mj_t4 100 (by decide +kernel) rfl
theorem kl_X9_210 : Cond.methodLink RX9 210 yX3_gather ∈ mj_TB := mj_t4 109 (by decide +kernel) rfl
theorem kl_X9_213 : Cond.methodLink RX9 213 yX3_shareOut ∈ mj_TB := mj_t4 114 (by decide +kernel) rfl
theorem kl_X9_216 : Cond.methodLink RX9 216 yX3_sharedSum ∈ mj_TB := mj_t4 128 (by decide +kernel) rfl
theorem kl_X9_219 : Cond.methodLink RX9 219 yX3_sharedChild ∈ mj_TB := mj_t4 132 (by decide +kernel) rfl
theorem kl_X9_222 : Cond.methodLink RX9 222 yX5_turnedMarks ∈ mj_TB := mj_t4 140 (by decide +kernel) rfl
theorem kl_X9_225 : Cond.methodLink RX9 225 yX5_firstTurned ∈ mj_TB := mj_t4 152 (by decide +kernel) rfl
theorem kl_X9_228 : Cond.methodLink RX9 228 yX3_leadingTo ∈ mj_TB := mj_t4 160 (by decide +kernel) rfl
theorem kl_X9_231 : Cond.methodLink RX9 231 yX6_endOf ∈ mj_TB := mj_t4 169 (by decide +kernel) rfl
theorem kl_X9_234 : Cond.methodLink RX9 234 yX6_twiceAtTwo ∈ mj_TB := mj_t4 183 (by decide +kernel) rfl
theorem kl_X9_237 : Cond.methodLink RX9 237 yX6_byParents ∈ mj_TB := mj_t4 188 (by decide +kernel) rfl
theorem kl_X9_240 : Cond.methodLink RX9 240 yX6_yearOf ∈ mj_TB := mj_t4 197 (by decide +kernel) rfl
theorem kl_X9_244 : Cond.methodLink RX9 244 yX6_growthInYear ∈ mj_TB := mj_t4 212 (by decide +kernel) rfl
theorem kl_X9_247 : Cond.methodLink RX9 247 yX2_isBorn ∈ mj_TB := mj_t4 217 (by decide +kernel) rfl
theorem kl_X9_250 : Cond.methodLink RX9 250 yX6_lineAt ∈ mj_TB := mj_t4 218 (by decide +kernel) rfl
theorem kl_X9_253 : Cond.methodLink RX9 253 yX6_firstFall ∈ mj_TB := mj_t4 230 (by decide +kernel) rfl
theorem kl_X9_256 : Cond.methodLink RX9 256 yX6_firstOvertaking ∈ mj_TB := mj_t5 0 (by decide +kernel) rfl
theorem kl_X9_259 : Cond.methodLink RX9 259 yX2_think ∈ mj_TB := mj_t5 12 (by decide +kernel) rfl
theorem kl_X9_263 : Cond.methodLink RX9 263 yX6_endMonth ∈ mj_TB := mj_t5 17 (by decide +kernel) rfl
theorem kl_X9_266 : Cond.methodLink RX9 266 yX2_thoughtHeightAt ∈ mj_TB := mj_t5 18 (by decide +kernel) rfl
theorem kl_X9_269 : Cond.methodLink RX9 269 yX3_slipsFound ∈ mj_TB := mj_t5 26 (by decide +kernel) rfl
theorem kl_X9_272 : Cond.methodLink RX9 272 yX1_toUndo ∈ mj_TB := mj_t5 35 (by decide +kernel) rfl
theorem kl_X9_275 : Cond.methodLink RX9 275 yX1_goBack ∈ mj_TB := mj_t5 39 (by decide +kernel) rfl
theorem kl_X9_278 : Cond.methodLink RX9 278 yX1_toRedo ∈ mj_TB := mj_t5 47 (by decide +kernel) rfl
theorem kl_X9_281 : Cond.methodLink RX9 281 yX1_goForward ∈ mj_TB := mj_t5 51 (by decide +kernel) rfl
theorem kl_X9_284 : Cond.methodLink RX9 284 yX0_isKind ∈ mj_TB := mj_t5 59 (by decide +kernel) rfl
theorem kl_X9_287 : Cond.methodLink RX9 287 yX0_size ∈ mj_TB := mj_t5 63 (by decide +kernel) rfl
theorem kl_X9_288 : Cond.methodLink RX9 288 yX0_add ∈ mj_TB := mj_t5 67 (by decide +kernel) rfl
theorem kl_X9_290 : Cond.methodLink RX9 290 yX0_start ∈ mj_TB := mj_t5 75 (by decide +kernel) rfl
theorem kl_X9_293 : Cond.methodLink RX9 293 yX0_ranAt ∈ mj_TB := mj_t5 114 (by decide +kernel) rfl
theorem kl_X9_296 : Cond.methodLink RX9 296 yX0_has ∈ mj_TB := mj_t5 122 (by decide +kernel) rfl
theorem kl_X9_297 : Cond.methodLink RX9 297 yX8_holdBody ∈ mj_TB := mj_t5 123 (by decide +kernel) rfl
theorem kl_X9_301 : Cond.methodLink RX9 301 yX8_isSort ∈ mj_TB := mj_t5 131 (by decide +kernel) rfl
theorem kl_X9_304 : Cond.methodLink RX9 304 yX8_holdRow ∈ mj_TB := mj_t5 135 (by decide +kernel) rfl
theorem kl_X9_308 : Cond.methodLink RX9 308 yX9_refusalAt ∈ mj_TB := mj_t5 143 (by decide +kernel) rfl
theorem kl_X9_311 : Cond.methodLink RX9 311 yX8_set ∈ mj_TB := mj_t5 151 (by decide +kernel) rfl
theorem kl_X9_319 : Cond.methodLink RX9 319 yX8_get ∈ mj_TB := mj_t3 150 (by decide +kernel) rfl
theorem kl_X9_323 : Cond.methodLink RX9 323 yX8_holdsRow ∈ mj_TB := mj_t5 147 (by decide +kernel) rfl
theorem kl_X9_326 : Cond.methodLink RX9 326 yX8_areAlike ∈ mj_TB := mj_t5 167 (by decide +kernel) rfl
theorem kl_X9_329 : Cond.methodLink RX9 329 yX8_hasPlaces ∈ mj_TB := mj_t3 146 (by decide +kernel) rfl
theorem kl_X9_332 : Cond.methodLink RX9 332 yX8_move ∈ mj_TB := mj_t5 171 (by decide +kernel) rfl
theorem kl_X9_336 : Cond.methodLink RX9 336 yX8_bodyOn ∈ mj_TB := mj_t5 180 (by decide +kernel) rfl
theorem kl_X9_339 : Cond.methodLink RX9 339 yX0_kindOf ∈ mj_TB := mj_t5 184 (by decide +kernel) rfl
theorem kl_X9_342 : Cond.methodLink RX9 342 yX0_isUnder ∈ mj_TB := mj_t5 185 (by decide +kernel) rfl
theorem kl_X9_345 : Cond.methodLink RX9 345 yX0_ranInAll ∈ mj_TB := mj_t5 192 (by decide +kernel) rfl
theorem kn_X0_31 : Cond.methodLinkNest RX0 31 yX9_within RX9 ∈ mj_nests := List.mem_of_getElem? (i := 4) rfl
theorem kl_X0_35 : Cond.methodLink RX0 35 yX0_isKind ∈ mj_TB := mj_t5 94 (by decide +kernel) rfl
theorem kl_X0_42 : Cond.methodLink RX0 42 yX0_has ∈ mj_TB := mj_t5 79 (by decide +kernel) rfl
theorem kl_X0_45 : Cond.methodLink RX0 45 yX0_kindOf ∈ mj_TB := mj_t5 83 (by decide +kernel) rfl
theorem kl_X0_49 : Cond.methodLink RX0 49 yX0_run ∈ mj_TB := mj_t5 87 (by decide +kernel) rfl
theorem kl_X0_53 : Cond.methodLink RX0 53 yX0_ownerOf ∈ mj_TB := mj_t5 91 (by decide +kernel) rfl
theorem kl_X0_57 : Cond.methodLink RX0 57 yX0_ownBody ∈ mj_TB := mj_t5 95 (by decide +kernel) rfl
theorem kl_X0_60 : Cond.methodLink RX0 60 yX0_note ∈ mj_TB := mj_t5 102 (by decide +kernel) rfl
theorem kl_X0_64 : Cond.methodLink RX0 64 yX0_perform ∈ mj_TB := mj_t5 106 (by decide +kernel) rfl
theorem kl_X1_39 : Cond.methodLink RX1 39 yX1_valueOf ∈ mj_TB := mj_t3 220 (by decide +kernel) rfl
theorem kl_X1_43 : Cond.methodLink RX1 43 yX1_become ∈ mj_TB := mj_t3 228 (by decide +kernel) rfl
theorem kl_X1_47 : Cond.methodLink RX1 47 yX1_remember ∈ mj_TB := mj_t4 8 (by decide +kernel) rfl
theorem kl_X1_51 : Cond.methodLink RX1 51 yX5_heightOf ∈ mj_TB := mj_t3 224 (by decide +kernel) rfl
theorem kl_X1_57 : Cond.methodLink RX1 57 yX5_wayOf ∈ mj_TB := mj_t3 225 (by decide +kernel) rfl
theorem kl_X1_60 : Cond.methodLink RX1 60 yX2_told ∈ mj_TB := mj_t3 226 (by decide +kernel) rfl
theorem kl_X1_66 : Cond.methodLink RX1 66 yX5_becomeHeight ∈ mj_TB := mj_t3 232 (by decide +kernel) rfl
theorem kl_X1_70 : Cond.methodLink RX1 70 yX5_becomeWay ∈ mj_TB := mj_t3 236 (by decide +kernel) rfl
theorem kl_X1_73 : Cond.methodLink RX1 73 yX2_becomeLate ∈ mj_TB := mj_t4 0 (by decide +kernel) rfl
theorem kl_X1_76 : Cond.methodLink RX1 76 yX2_becomeParents ∈ mj_TB := mj_t4 4 (by decide +kernel) rfl
theorem kl_X1_79 : Cond.methodLink RX1 79 yX1_dropOldest ∈ mj_TB := mj_t4 12 (by decide +kernel) rfl
theorem kl_X1_82 : Cond.methodLink RX1 82 arraycopyName ∈ mj_TB := mj_t4 16 (by decide +kernel) rfl
theorem kl_X2_67 : Cond.methodLink RX2 67 yX2_has ∈ mj_TB := mj_t3 100 (by decide +kernel) rfl
theorem kn_X2_72 : Cond.methodLinkNest RX2 72 yX9_isMonth RX9 ∈ mj_nests := List.mem_of_getElem? (i := 5) rfl
theorem kl_X2_75 : Cond.methodLink RX2 75 yX2_raise ∈ mj_TB := mj_t2 161 (by decide +kernel) rfl
theorem kl_X2_79 : Cond.methodLink RX2 79 yX2_forgetHeights ∈ mj_TB := mj_t2 165 (by decide +kernel) rfl
theorem kl_X2_82 : Cond.methodLink RX2 82 Lib.Math.max.name ∈ mj_TB := mj_t2 164 (by decide +kernel) rfl
theorem kl_X2_88 : Cond.methodLink RX2 88 yX2_name ∈ mj_TB := mj_t2 105 (by decide +kernel) rfl
theorem kl_X2_92 : Cond.methodLink RX2 92 yX2_grow ∈ mj_TB := mj_t2 109 (by decide +kernel) rfl
theorem kl_X2_96 : Cond.methodLink RX2 96 arraycopyName ∈ mj_TB := mj_t5 16 (by decide +kernel) rfl
theorem kl_X2_102 : Cond.methodLink RX2 102 yX4_growth ∈ mj_TB := mj_t2 113 (by decide +kernel) rfl
theorem kl_X2_106 : Cond.methodLink RX2 106 Lib.Math.min.name ∈ mj_TB := mj_t2 145 (by decide +kernel) rfl
theorem kl_X3_45 : Cond.methodLink RX3 45 yX2_isBorn ∈ mj_TB := mj_t4 32 (by decide +kernel) rfl
theorem kl_X3_51 : Cond.methodLink RX3 51 yX2_heightAt ∈ mj_TB := mj_t4 36 (by decide +kernel) rfl
theorem kl_X3_55 : Cond.methodLink RX3 55 yX3_made ∈ mj_TB := mj_t4 37 (by decide +kernel) rfl
theorem kl_X3_58 : Cond.methodLink RX3 58 Lib.Math.abs.name ∈ mj_TB := mj_t4 41 (by decide +kernel) rfl
theorem kl_X3_64 : Cond.methodLink RX3 64 Lib.Math.max.name ∈ mj_TB := mj_t4 40 (by decide +kernel) rfl
theorem kl_X3_67 : Cond.methodLink RX3 67 yX5_heightOf ∈ mj_TB := mj_t4 52 (by decide +kernel) rfl
theorem kl_X3_72 : Cond.methodLink RX3 72 yX5_nameOf ∈ mj_TB := mj_t4 53 (by decide +kernel) rfl
theorem kl_X3_75 : Cond.methodLink RX3 75 yX5_monthOf ∈ mj_TB := mj_t4 54 (by decide +kernel) rfl
theorem kl_X3_78 : Cond.methodLink RX3 78 yX5_wayOf ∈ mj_TB := mj_t4 55 (by decide +kernel) rfl
theorem kl_X3_81 : Cond.methodLink RX3 81 yX3_find ∈ mj_TB := mj_t4 56 (by decide +kernel) rfl
theorem kn_X3_85 : Cond.methodLinkNest RX3 85 yX9_isMonth RX9 ∈ mj_nests := List.mem_of_getElem? (i := 6) rfl
theorem kl_X3_89 : Cond.methodLink RX3 89 yX2_has ∈ mj_TB := mj_t4 61 (by decide +kernel) rfl
theorem kl_X3_92 : Cond.methodLink RX3 92 yX2_size ∈ mj_TB := mj_t4 62 (by decide +kernel) rfl
theorem kl_X3_96 : Cond.methodLink RX3 96 yX3_distance ∈ mj_TB := mj_t4 63 (by decide +kernel) rfl
theorem kl_X3_100 : Cond.methodLink RX3 100 yX5_size ∈ mj_TB := mj_t4 113 (by decide +kernel) rfl
theorem kl_X3_101 : Cond.methodLink RX3 101 yX3_findFor ∈ mj_TB := mj_t4 164 (by decide +kernel) rfl
theorem kl_X3_104 : Cond.methodLink RX3 104 yX3_weight ∈ mj_TB := mj_t4 84 (by decide +kernel) rfl
theorem kl_X3_107 : Cond.methodLink RX3 107 yX3_foundDistanceBy ∈ mj_TB := mj_t4 96 (by decide +kernel) rfl
theorem kl_X3_110 : Cond.methodLink RX3 110 yX3_likeliestWay ∈ mj_TB := mj_t4 104 (by decide +kernel) rfl
theorem kl_X3_113 : Cond.methodLink RX3 113 yX3_sumOfRow ∈ mj_TB := mj_t4 118 (by decide +kernel) rfl
theorem kl_X3_116 : Cond.methodLink RX3 116 arraycopyName ∈ mj_TB := mj_t4 127 (by decide +kernel) rfl
theorem kl_X3_122 : Cond.methodLink RX3 122 Lib.Math.min.name ∈ mj_TB := mj_t4 122 (by decide +kernel) rfl
theorem kl_X3_125 : Cond.methodLink RX3 125 yX3_isTriedBehind ∈ mj_TB := mj_t4 123 (by decide +kernel) rfl
theorem kl_X4_32 : Cond.methodLink RX4 32 Lib.Math.min.name ∈ mj_TB := mj_t2 139 (by decide +kernel) rfl
theorem kl_X4_38 : Cond.methodLink RX4 38 yX4_workOut ∈ mj_TB := mj_t2 117 (by decide +kernel) rfl
theorem kl_X4_42 : Cond.methodLink RX4 42 yX4_withoutText ∈ mj_TB := mj_t2 136 (by decide +kernel) rfl
theorem kl_X4_46 : Cond.methodLink RX4 46 Lib.Math.max.name ∈ mj_TB := mj_t2 142 (by decide +kernel) rfl
theorem kl_X4_49 : Cond.methodLink RX4 49 yX4_pop ∈ mj_TB := mj_t2 121 (by decide +kernel) rfl
theorem kl_X4_53 : Cond.methodLink RX4 53 yX4_takeStep ∈ mj_TB := mj_t2 125 (by decide +kernel) rfl
theorem kl_X4_57 : Cond.methodLink RX4 57 yX4_push ∈ mj_TB := mj_t2 129 (by decide +kernel) rfl
theorem kl_X4_61 : Cond.methodLink RX4 61 yX4_joined ∈ mj_TB := mj_t2 133 (by decide +kernel) rfl
theorem kl_X5_34 : Cond.methodLink RX5 34 yX5_heightOf ∈ mj_TB := mj_t3 189 (by decide +kernel) rfl
theorem kl_X5_38 : Cond.methodLink RX5 38 yX5_nameOf ∈ mj_TB := mj_t3 193 (by decide +kernel) rfl
theorem kl_X5_41 : Cond.methodLink RX5 41 yX5_monthOf ∈ mj_TB := mj_t3 172 (by decide +kernel) rfl
theorem kl_X5_44 : Cond.methodLink RX5 44 yX5_wayOf ∈ mj_TB := mj_t3 197 (by decide +kernel) rfl
theorem kl_X5_47 : Cond.methodLink RX5 47 yX5_isCovered ∈ mj_TB := mj_t3 168 (by decide +kernel) rfl
theorem kl_X5_52 : Cond.methodLink RX5 52 yX5_has ∈ mj_TB := mj_t3 176 (by decide +kernel) rfl
theorem kl_X5_55 : Cond.methodLink RX5 55 Lib.Math.max.name ∈ mj_TB := mj_t3 163 (by decide +kernel) rfl
theorem kl_X5_61 : Cond.methodLink RX5 61 yX5_isTurned ∈ mj_TB := mj_t4 144 (by decide +kernel) rfl
theorem kl_X5_65 : Cond.methodLink RX5 65 yX5_isToldOf ∈ mj_TB := mj_t4 148 (by decide +kernel) rfl
theorem kl_X6_15 : Cond.methodLink RX6 15 yX2_bornIn ∈ mj_TB := mj_t4 177 (by decide +kernel) rfl
theorem kl_X6_21 : Cond.methodLink RX6 21 Lib.Math.min.name ∈ mj_TB := mj_t4 181 (by decide +kernel) rfl
theorem kl_X6_27 : Cond.methodLink RX6 27 yX6_endMonth ∈ mj_TB := mj_t4 173 (by decide +kernel) rfl
theorem kl_X6_30 : Cond.methodLink RX6 30 yX2_heightAt ∈ mj_TB := mj_t4 182 (by decide +kernel) rfl
theorem kn_X6_33 : Cond.methodLinkNest RX6 33 yX9_isMonth RX9 ∈ mj_nests := List.mem_of_getElem? (i := 7) rfl
theorem kl_X6_37 : Cond.methodLink RX6 37 yX2_told ∈ mj_TB := mj_t4 192 (by decide +kernel) rfl
theorem kl_X6_40 : Cond.methodLink RX6 40 yX6_isWholeYear ∈ mj_TB := mj_t4 201 (by decide +kernel) rfl
theorem kl_X6_44 : Cond.methodLink RX6 44 yX6_growthInYear ∈ mj_TB := mj_t4 205 (by decide +kernel) rfl
theorem kl_X6_47 : Cond.methodLink RX6 47 yX6_isBetter ∈ mj_TB := mj_t4 209 (by decide +kernel) rfl
theorem kl_X6_51 : Cond.methodLink RX6 51 yX2_modelHeightAt ∈ mj_TB := mj_t4 222 (by decide +kernel) rfl
theorem kl_X6_54 : Cond.methodLink RX6 54 yX6_lineAt ∈ mj_TB := mj_t4 234 (by decide +kernel) rfl
theorem kl_X6_57 : Cond.methodLink RX6 57 Lib.Math.max.name ∈ mj_TB := mj_t4 235 (by decide +kernel) rfl
theorem kl_X6_60 : Cond.methodLink RX6 60 yX6_isHigher ∈ mj_TB := mj_t5 4 (by decide +kernel) rfl
theorem kl_X7_31 : Cond.methodLink RX7 31 yX4_become ∈ mj_TB := mj_t3 78 (by decide +kernel) rfl
theorem kl_X7_35 : Cond.methodLink RX7 35 yX7_readLine ∈ mj_TB := mj_t2 189 (by decide +kernel) rfl
theorem kl_X7_39 : Cond.methodLink RX7 39 yX7_skip ∈ mj_TB := mj_t2 213 (by decide +kernel) rfl
theorem kl_X7_43 : Cond.methodLink RX7 43 yX7_readJoined ∈ mj_TB := mj_t2 193 (by decide +kernel) rfl
theorem kl_X7_47 : Cond.methodLink RX7 47 yX7_write ∈ mj_TB := mj_t2 217 (by decide +kernel) rfl
theorem kl_X7_51 : Cond.methodLink RX7 51 yX7_readTighter ∈ mj_TB := mj_t2 197 (by decide +kernel) rfl
theorem kl_X7_54 : Cond.methodLink RX7 54 yX7_seen ∈ mj_TB := mj_t2 205 (by decide +kernel) rfl
theorem kl_X7_58 : Cond.methodLink RX7 58 yX7_isOperator ∈ mj_TB := mj_t3 71 (by decide +kernel) rfl
theorem kl_X7_61 : Cond.methodLink RX7 61 yX7_readOperand ∈ mj_TB := mj_t2 201 (by decide +kernel) rfl
theorem kl_X7_64 : Cond.methodLink RX7 64 yX7_readOpened ∈ mj_TB := mj_t2 209 (by decide +kernel) rfl
theorem kl_X7_67 : Cond.methodLink RX7 67 yX7_isDigit ∈ mj_TB := mj_t2 221 (by decide +kernel) rfl
theorem kl_X7_70 : Cond.methodLink RX7 70 yX7_readNumber ∈ mj_TB := mj_t2 224 (by decide +kernel) rfl
theorem kl_X7_75 : Cond.methodLink RX7 75 yJ0_indexOf_0f7a4 ∈ mj_TB := mj_t2 229 (by decide +kernel) rfl
theorem kn_X8_24 : Cond.methodLinkNest RX8 24 yX9_within RX9 ∈ mj_nests := List.mem_of_getElem? (i := 8) rfl
theorem kl_X8_30 : Cond.methodLink RX8 30 yX8_has ∈ mj_TB := mj_t3 137 (by decide +kernel) rfl
theorem kl_X8_34 : Cond.methodLink RX8 34 yX8_hasPlaces ∈ mj_TB := mj_t3 154 (by decide +kernel) rfl
theorem kl_X8_37 : Cond.methodLink RX8 37 yX8_lowestBits ∈ mj_TB := mj_t5 155 (by decide +kernel) rfl
theorem kl_X8_41 : Cond.methodLink RX8 41 arraycopyName ∈ mj_TB := mj_t5 175 (by decide +kernel) rfl
theorem kl_X10_110 : Cond.methodLink RX10 110 yX10_within ∈ mj_TB := mj_t6 123 (by decide +kernel) rfl
theorem kl_X10_124 : Cond.methodLink RX10 124 yX10_isMonth ∈ mj_TB := mj_t6 119 (by decide +kernel) rfl
theorem kl_X10_132 : Cond.methodLink RX10 132 yX10_isLate ∈ mj_TB := mj_t6 128 (by decide +kernel) rfl
theorem kl_X10_135 : Cond.methodLink RX10 135 yX10_areParents ∈ mj_TB := mj_t6 133 (by decide +kernel) rfl
theorem kl_X10_138 : Cond.methodLink RX10 138 yX10_isSpan ∈ mj_TB := mj_t6 142 (by decide +kernel) rfl
theorem kl_X10_146 : Cond.methodLink RX10 146 yX10_tellsWant ∈ mj_TB := mj_t6 146 (by decide +kernel) rfl
theorem kl_X10_150 : Cond.methodLink RX10 150 yX10_wantOf ∈ mj_TB := mj_t6 154 (by decide +kernel) rfl
theorem kl_X10_171 : Cond.methodLink RX10 171 yX10_byteAt ∈ mj_TB := mj_t6 195 (by decide +kernel) rfl
theorem kl_X10_175 : Cond.methodLink RX10 175 yX10_both ∈ mj_TB := mj_t6 175 (by decide +kernel) rfl
theorem kl_X10_178 : Cond.methodLink RX10 178 yX10_takes ∈ mj_TB := mj_t6 203 (by decide +kernel) rfl
theorem kl_X10_181 : Cond.methodLink RX10 181 yX10_compared ∈ mj_TB := mj_t6 179 (by decide +kernel) rfl
theorem kl_X10_184 : Cond.methodLink RX10 184 yX10_sums ∈ mj_TB := mj_t6 183 (by decide +kernel) rfl
theorem kl_X10_187 : Cond.methodLink RX10 187 yX10_product ∈ mj_TB := mj_t6 187 (by decide +kernel) rfl
theorem kl_X10_190 : Cond.methodLink RX10 190 yX10_one ∈ mj_TB := mj_t6 191 (by decide +kernel) rfl
theorem kl_X10_196 : Cond.methodLink RX10 196 yX10_wrong ∈ mj_TB := mj_t6 199 (by decide +kernel) rfl
theorem kl_X10_199 : Cond.methodLink RX10 199 yX10_either ∈ mj_TB := mj_t6 171 (by decide +kernel) rfl
theorem kl_X10_202 : Cond.methodLink RX10 202 yX10_nameOf ∈ mj_TB := mj_t6 207 (by decide +kernel) rfl
theorem kl_X10_205 : Cond.methodLink RX10 205 yX10_workOut ∈ mj_TB := mj_t6 167 (by decide +kernel) rfl
theorem kl_X10_209 : Cond.methodLink RX10 209 yX10_growsBy ∈ mj_TB := mj_t6 230 (by decide +kernel) rfl
theorem kl_X10_213 : Cond.methodLink RX10 213 yX10_growsUp ∈ mj_TB := mj_t6 226 (by decide +kernel) rfl
theorem kl_X10_217 : Cond.methodLink RX10 217 yX10_allGrow ∈ mj_TB := mj_t6 222 (by decide +kernel) rfl
theorem kl_X10_220 : Cond.methodLink RX10 220 yX10_isChild ∈ mj_TB := mj_t6 214 (by decide +kernel) rfl
theorem kl_X10_223 : Cond.methodLink RX10 223 yX10_heightOf ∈ mj_TB := mj_t6 218 (by decide +kernel) rfl
theorem kl_X10_237 : Cond.methodLink RX10 237 yX10_isOne ∈ mj_TB := mj_t6 238 (by decide +kernel) rfl
theorem kl_X10_241 : Cond.methodLink RX10 241 yX10_adds ∈ mj_TB := mj_t7 5 (by decide +kernel) rfl
theorem kl_X10_245 : Cond.methodLink RX10 245 yX10_isShelf ∈ mj_TB := mj_t7 13 (by decide +kernel) rfl
theorem kl_X10_250 : Cond.methodLink RX10 250 yX10_isCovered ∈ mj_TB := mj_t7 22 (by decide +kernel) rfl
theorem kl_X10_253 : Cond.methodLink RX10 253 yX10_isMark ∈ mj_TB := mj_t7 30 (by decide +kernel) rfl
theorem kl_X10_256 : Cond.methodLink RX10 256 yX10_ofMark ∈ mj_TB := mj_t7 34 (by decide +kernel) rfl
theorem kl_X10_264 : Cond.methodLink RX10 264 yX10_ofChild ∈ mj_TB := mj_t7 41 (by decide +kernel) rfl
theorem kl_X10_267 : Cond.methodLink RX10 267 yX10_becomes ∈ mj_TB := mj_t7 49 (by decide +kernel) rfl
theorem kl_X10_270 : Cond.methodLink RX10 270 yX10_byWay ∈ mj_TB := mj_t7 65 (by decide +kernel) rfl
theorem kl_X10_273 : Cond.methodLink RX10 273 yX10_size ∈ mj_TB := mj_t7 68 (by decide +kernel) rfl
theorem kl_X10_276 : Cond.methodLink RX10 276 yX10_offBy ∈ mj_TB := mj_t7 61 (by decide +kernel) rfl
theorem kl_X10_280 : Cond.methodLink RX10 280 yX10_isMc ∈ mj_TB := mj_t7 57 (by decide +kernel) rfl
theorem kl_X10_292 : Cond.methodLink RX10 292 yX10_mayBe ∈ mj_TB := mj_t7 80 (by decide +kernel) rfl
theorem kl_X10_296 : Cond.methodLink RX10 296 yX10_offOf ∈ mj_TB := mj_t7 84 (by decide +kernel) rfl
theorem kl_X10_302 : Cond.methodLink RX10 302 yX10_findWhose ∈ mj_TB := mj_t7 76 (by decide +kernel) rfl
theorem kl_X10_309 : Cond.methodLink RX10 309 yX10_goesTogether ∈ mj_TB := mj_t7 100 (by decide +kernel) rfl
theorem kl_X10_313 : Cond.methodLink RX10 313 yX10_isTurned ∈ mj_TB := mj_t7 108 (by decide +kernel) rfl
theorem kl_X10_316 : Cond.methodLink RX10 316 yX10_endOf ∈ mj_TB := mj_t7 120 (by decide +kernel) rfl
theorem kl_X10_319 : Cond.methodLink RX10 319 yX10_twiceOf ∈ mj_TB := mj_t7 124 (by decide +kernel) rfl
theorem kl_X10_322 : Cond.methodLink RX10 322 yX10_byParents ∈ mj_TB := mj_t7 128 (by decide +kernel) rfl
theorem kl_X10_327 : Cond.methodLink RX10 327 yX10_growsOther ∈ mj_TB := mj_t7 141 (by decide +kernel) rfl
theorem kl_X10_330 : Cond.methodLink RX10 330 yX10_lineOf ∈ mj_TB := mj_t7 145 (by decide +kernel) rfl
theorem kl_X10_336 : Cond.methodLink RX10 336 yX10_nearest ∈ mj_TB := mj_t7 167 (by decide +kernel) rfl
theorem kl_X10_347 : Cond.methodLink RX10 347 yX10_begins ∈ mj_TB := mj_t7 188 (by decide +kernel) rfl
theorem kl_X10_350 : Cond.methodLink RX10 350 yX10_growsAs ∈ mj_TB := mj_t7 184 (by decide +kernel) rfl
theorem kl_X10_356 : Cond.methodLink RX10 356 yX10_standsAs ∈ mj_TB := mj_t7 192 (by decide +kernel) rfl
theorem kl_X10_362 : Cond.methodLink RX10 362 yX10_marksAs ∈ mj_TB := mj_t7 196 (by decide +kernel) rfl
theorem kl_X10_365 : Cond.methodLink RX10 365 yX10_tellsAs ∈ mj_TB := mj_t7 200 (by decide +kernel) rfl
theorem kl_X10_368 : Cond.methodLink RX10 368 yX10_isBody ∈ mj_TB := mj_t7 180 (by decide +kernel) rfl
theorem kl_X10_373 : Cond.methodLink RX10 373 yX10_refusal ∈ mj_TB := mj_t7 220 (by decide +kernel) rfl
theorem kl_X10_376 : Cond.methodLink RX10 376 yX10_asSort ∈ mj_TB := mj_t7 224 (by decide +kernel) rfl
theorem kl_X10_384 : Cond.methodLink RX10 384 yX10_kindOf ∈ mj_TB := mj_t8 0 (by decide +kernel) rfl
theorem kl_X10_387 : Cond.methodLink RX10 387 yX10_above ∈ mj_TB := mj_t8 4 (by decide +kernel) rfl
theorem kl_J0_335 : Cond.methodLink RJ0 335 yJ0_coder_7d493 ∈ mj_TB := mj_t3 7 (by decide +kernel) rfl
theorem kl_J0_492 : Cond.methodLink RJ0 492 yJ0_isLatin1_aae02 ∈ mj_TB := mj_t2 237 (by decide +kernel) rfl
theorem kl_J0_505 : Cond.methodLink RJ0 505 yJ0_length_8abf5 ∈ mj_TB := mj_t3 3 (by decide +kernel) rfl
theorem kl_J0_633 : Cond.methodLink RJ0 633 yJ0_indexOf_7cf53 ∈ mj_TB := mj_t2 233 (by decide +kernel) rfl
theorem kl_J0_637 : Cond.methodLink RJ0 637 yJ1_indexOf_4cfef ∈ mj_TB := mj_t3 11 (by decide +kernel) rfl
theorem kl_J1_38 : Cond.methodLink RJ1 38 Lib.Math.min.name ∈ mj_TB := mj_t3 18 (by decide +kernel) rfl
theorem kl_J1_88 : Cond.methodLink RJ1 88 yJ1_canEncode_9a6ad ∈ mj_TB := mj_t3 14 (by decide +kernel) rfl
theorem kl_J1_92 : Cond.methodLink RJ1 92 Lib.Math.max.name ∈ mj_TB := mj_t3 17 (by decide +kernel) rfl
theorem kl_J1_95 : Cond.methodLink RJ1 95 yJ1_indexOfChar_4cfef ∈ mj_TB := mj_t3 19 (by decide +kernel) rfl
theorem ys_X0_isKind : mj_yS yX0_isKind cX0_isKind 1 (some .boolean) 1 := ⟨mj_t5 60 (by decide +kernel) rfl, mj_t1 9 (by decide +kernel) rfl, mj_t5 61 (by decide +kernel) rfl, by decide +kernel, by decide +kernel, by decide +kernel⟩
theorem ys_X0_isUnder : mj_yS yX0_isUnder cX0_isUnder 4 (some .boolean) 2 := ⟨mj_t5 186 (by decide +kernel) rfl, mj_t1 9 (by decide +kernel) rfl, mj_t5 187 (by decide +kernel) rfl, by decide +kernel, by decide +kernel, by decide +kernel⟩
theorem yv_X0_size : mj_yV yX0_size cX0_size 1 (some .int) 0 := ⟨⟨mj_t5 64 (by decide +kernel) rfl, mj_t5 65 (by decide +kernel) rfl⟩, mj_t1 9 (by decide +kernel) rfl, mj_t5 66 (by decide +kernel) rfl, by decide +kernel, by decide +kernel, by decide +kernel⟩
theorem yv_X0_has : mj_yV yX0_has cX0_has 2 (some .boolean) 1 := ⟨⟨mj_t5 80 (by decide +kernel) rfl, mj_t5 81 (by decide +kernel) rfl⟩, mj_t1 9 (by decide +kernel) rfl, mj_t5 82 (by decide +kernel) rfl, by decide +kernel, by decide +kernel, by decide +kernel⟩
theorem yv_X0_add : mj_yV yX0_add cX0_add 2 (some .int) 1 := ⟨⟨mj_t5 68 (by decide +kernel) rfl, mj_t5 69 (by decide +kernel) rfl⟩, mj_t1 9 (by decide +kernel) rfl, mj_t5 70 (by decide +kernel) rfl, by decide +kernel, by decide +kernel, by decide +kernel⟩
theorem yv_X0_kindOf : mj_yV yX0_kindOf cX0_kindOf 2 (some .int) 1 := ⟨⟨mj_t5 84 (by decide +kernel) rfl, mj_t5 85 (by decide +kernel) rfl⟩, mj_t1 9 (by decide +kernel) rfl, mj_t5 86 (by decide +kernel) rfl, by decide +kernel, by decide +kernel, by decide +kernel⟩
theorem yv_X0_ranInAll : mj_yV yX0_ranInAll cX0_ranInAll 1 (some .int) 0 := ⟨⟨mj_t5 193 (by decide +kernel) rfl, mj_t5 194 (by decide +kernel) rfl⟩, mj_t1 9 (by decide +kernel) rfl, mj_t5 195 (by decide +kernel) rfl, by decide +kernel, by decide +kernel, by decide +kernel⟩
theorem yv_X0_ranAt : mj_yV yX0_ranAt cX0_ranAt 2 (some .int) 1 := ⟨⟨mj_t5 115 (by decide +kernel) rfl, mj_t5 116 (by decide +kernel) rfl⟩, mj_t1 9 (by decide +kernel) rfl, mj_t5 117 (by decide +kernel) rfl, by decide +kernel, by decide +kernel, by decide +kernel⟩
theorem yv_X0_start : mj_yV yX0_start cX0_start 4 (some .int) 3 := ⟨⟨mj_t5 76 (by decide +kernel) rfl, mj_t5 77 (by decide +kernel) rfl⟩, mj_t1 9 (by decide +kernel) rfl, mj_t5 78 (by decide +kernel) rfl, by decide +kernel, by decide +kernel, by decide +kernel⟩
theorem yv_X0_run : mj_yV yX0_run cX0_run 7 (some .int) 4 := ⟨⟨mj_t5 89 (by decide +kernel) rfl, mj_t0 32 (by decide +kernel) rfl⟩, mj_t1 9 (by decide +kernel) rfl, mj_t5 90 (by decide +kernel) rfl, by decide +kernel, by decide +kernel, by decide +kernel⟩
theorem yv_X0_perform : mj_yV yX0_perform cX0_perform 5 (some .int) 4 := ⟨⟨mj_t5 108 (by decide +kernel) rfl, mj_t0 34 (by decide +kernel) rfl⟩, mj_t1 9 (by decide +kernel) rfl, mj_t5 109 (by decide +kernel) rfl, by decide +kernel, by decide +kernel, by decide +kernel⟩
theorem ys_X0_ownerOf : mj_yS yX0_ownerOf cX0_ownerOf 4 (some .int) 2 := ⟨mj_t5 92 (by decide +kernel) rfl, mj_t1 9 (by decide +kernel) rfl, mj_t5 93 (by decide +kernel) rfl, by decide +kernel, by decide +kernel, by decide +kernel⟩
theorem ys_X0_ownBody : mj_yS yX0_ownBody cX0_ownBody 3 (some .int) 2 := ⟨mj_t5 96 (by decide +kernel) rfl, mj_t1 9 (by decide +kernel) rfl, mj_t5 97 (by decide +kernel) rfl, by decide +kernel, by decide +kernel, by decide +kernel⟩
theorem yv_X0_note : mj_yV yX0_note cX0_note 2 (none) 1 := ⟨⟨mj_t5 104 (by decide +kernel) rfl, mj_t0 33 (by decide +kernel) rfl⟩, mj_t1 9 (by decide +kernel) rfl, mj_t5 105 (by decide +kernel) rfl, by decide +kernel, by decide +kernel, by decide +kernel⟩
theorem yv_X1_toUndo : mj_yV yX1_toUndo cX1_toUndo 1 (some .int) 0 := ⟨⟨mj_t5 36 (by decide +kernel) rfl, mj_t5 37 (by decide +kernel) rfl⟩, mj_t1 8 (by decide +kernel) rfl, mj_t5 38 (by decide +kernel) rfl, by decide +kernel, by decide +kernel, by decide +kernel⟩
theorem yv_X1_toRedo : mj_yV yX1_toRedo cX1_toRedo 1 (some .int) 0 := ⟨⟨mj_t5 48 (by decide +kernel) rfl, mj_t5 49 (by decide +kernel) rfl⟩, mj_t1 8 (by decide +kernel) rfl, mj_t5 50 (by decide +kernel) rfl, by decide +kernel, by decide +kernel, by decide +kernel⟩
theorem yv_X1_change : mj_yV yX1_change cX1_change 5 (some .int) 3 := ⟨⟨mj_t3 217 (by decide +kernel) rfl, mj_t3 218 (by decide +kernel) rfl⟩, mj_t1 8 (by decide +kernel) rfl, mj_t3 219 (by decide +kernel) rfl, by decide +kernel, by decide +kernel, by decide +kernel⟩
theorem yv_X1_valueOf : mj_yV yX1_valueOf cX1_valueOf 3 (some .int) 2 := ⟨⟨mj_t3 222 (by decide +kernel) rfl, mj_t0 18 (by decide +kernel) rfl⟩, mj_t1 8 (by decide +kernel) rfl, mj_t3 223 (by decide +kernel) rfl, by decide +kernel, by decide +kernel, by decide +kernel⟩
theorem yv_X1_become : mj_yV yX1_become cX1_become 4 (none) 3 := ⟨⟨mj_t3 230 (by decide +kernel) rfl, mj_t0 19 (by decide +kernel) rfl⟩, mj_t1 8 (by decide +kernel) rfl, mj_t3 231 (by decide +kernel) rfl, by decide +kernel, by decide +kernel, by decide +kernel⟩
theorem yv_X1_remember : mj_yV yX1_remember cX1_remember 5 (none) 4 := ⟨⟨mj_t4 10 (by decide +kernel) rfl, mj_t0 20 (by decide +kernel) rfl⟩, mj_t1 8 (by decide +kernel) rfl, mj_t4 11 (by decide +kernel) rfl, by decide +kernel, by decide +kernel, by decide +kernel⟩
theorem yv_X1_dropOldest : mj_yV yX1_dropOldest cX1_dropOldest 1 (none) 0 := ⟨⟨mj_t4 14 (by decide +kernel) rfl, mj_t0 21 (by decide +kernel) rfl⟩, mj_t1 8 (by decide +kernel) rfl, mj_t4 15 (by decide +kernel) rfl, by decide +kernel, by decide +kernel, by decide +kernel⟩
theorem yv_X1_goBack : mj_yV yX1_goBack cX1_goBack 1 (none) 0 := ⟨⟨mj_t5 40 (by decide +kernel) rfl, mj_t5 41 (by decide +kernel) rfl⟩, mj_t1 8 (by decide +kernel) rfl, mj_t5 42 (by decide +kernel) rfl, by decide +kernel, by decide +kernel, by decide +kernel⟩
theorem yv_X1_goForward : mj_yV yX1_goForward cX1_goForward 1 (none) 0 := ⟨⟨mj_t5 52 (by decide +kernel) rfl, mj_t5 53 (by decide +kernel) rfl⟩, mj_t1 8 (by decide +kernel) rfl, mj_t5 54 (by decide +kernel) rfl, by decide +kernel, by decide +kernel, by decide +kernel⟩
theorem yv_X2_size : mj_yV yX2_size cX2_size 1 (some .int) 0 := ⟨⟨mj_t2 94 (by decide +kernel) rfl, mj_t2 95 (by decide +kernel) rfl⟩, mj_t1 4 (by decide +kernel) rfl, mj_t2 96 (by decide +kernel) rfl, by decide +kernel, by decide +kernel, by decide +kernel⟩
theorem yv_X2_has : mj_yV yX2_has cX2_has 2 (some .boolean) 1 := ⟨⟨mj_t3 93 (by decide +kernel) rfl, mj_t3 94 (by decide +kernel) rfl⟩, mj_t1 4 (by decide +kernel) rfl, mj_t3 95 (by decide +kernel) rfl, by decide +kernel, by decide +kernel, by decide +kernel⟩
theorem yv_X2_add : mj_yV yX2_add cX2_add 6 (some .int) 5 := ⟨⟨mj_t2 98 (by decide +kernel) rfl, mj_t2 99 (by decide +kernel) rfl⟩, mj_t1 4 (by decide +kernel) rfl, mj_t2 100 (by decide +kernel) rfl, by decide +kernel, by decide +kernel, by decide +kernel⟩
theorem yv_X2_told : mj_yV yX2_told cX2_told 3 (some .int) 2 := ⟨⟨mj_t3 203 (by decide +kernel) rfl, mj_t3 204 (by decide +kernel) rfl⟩, mj_t1 4 (by decide +kernel) rfl, mj_t3 205 (by decide +kernel) rfl, by decide +kernel, by decide +kernel, by decide +kernel⟩
theorem yv_X2_bornIn : mj_yV yX2_bornIn cX2_bornIn 2 (some .int) 1 := ⟨⟨mj_t4 178 (by decide +kernel) rfl, mj_t4 179 (by decide +kernel) rfl⟩, mj_t1 4 (by decide +kernel) rfl, mj_t4 180 (by decide +kernel) rfl, by decide +kernel, by decide +kernel, by decide +kernel⟩
theorem yv_X2_isBorn : mj_yV yX2_isBorn cX2_isBorn 3 (some .boolean) 2 := ⟨⟨mj_t4 33 (by decide +kernel) rfl, mj_t4 34 (by decide +kernel) rfl⟩, mj_t1 4 (by decide +kernel) rfl, mj_t4 35 (by decide +kernel) rfl, by decide +kernel, by decide +kernel, by decide +kernel⟩
theorem yv_X2_becomeLate : mj_yV yX2_becomeLate cX2_becomeLate 3 (none) 2 := ⟨⟨mj_t4 1 (by decide +kernel) rfl, mj_t4 2 (by decide +kernel) rfl⟩, mj_t1 4 (by decide +kernel) rfl, mj_t4 3 (by decide +kernel) rfl, by decide +kernel, by decide +kernel, by decide +kernel⟩
theorem yv_X2_becomeParents : mj_yV yX2_becomeParents cX2_becomeParents 3 (none) 2 := ⟨⟨mj_t4 5 (by decide +kernel) rfl, mj_t4 6 (by decide +kernel) rfl⟩, mj_t1 4 (by decide +kernel) rfl, mj_t4 7 (by decide +kernel) rfl, by decide +kernel, by decide +kernel, by decide +kernel⟩
theorem yv_X2_wantsTold : mj_yV yX2_wantsTold cX2_wantsTold 1 (some .int) 0 := ⟨⟨mj_t2 154 (by decide +kernel) rfl, mj_t2 155 (by decide +kernel) rfl⟩, mj_t1 4 (by decide +kernel) rfl, mj_t2 156 (by decide +kernel) rfl, by decide +kernel, by decide +kernel, by decide +kernel⟩
theorem yv_X2_wantAt : mj_yV yX2_wantAt cX2_wantAt 2 (some .int) 1 := ⟨⟨mj_t3 106 (by decide +kernel) rfl, mj_t3 107 (by decide +kernel) rfl⟩, mj_t1 4 (by decide +kernel) rfl, mj_t3 108 (by decide +kernel) rfl, by decide +kernel, by decide +kernel, by decide +kernel⟩
theorem yv_X2_addWant : mj_yV yX2_addWant cX2_addWant 4 (some .int) 3 := ⟨⟨mj_t2 158 (by decide +kernel) rfl, mj_t2 159 (by decide +kernel) rfl⟩, mj_t1 4 (by decide +kernel) rfl, mj_t2 160 (by decide +kernel) rfl, by decide +kernel, by decide +kernel, by decide +kernel⟩
theorem ys_X2_raise : mj_yS yX2_raise cX2_raise 5 (none) 4 := ⟨mj_t2 162 (by decide +kernel) rfl, mj_t1 4 (by decide +kernel) rfl, mj_t2 163 (by decide +kernel) rfl, by decide +kernel, by decide +kernel, by decide +kernel⟩
theorem yv_X2_forgetHeights : mj_yV yX2_forgetHeights cX2_forgetHeights 2 (none) 0 := ⟨⟨mj_t2 166 (by decide +kernel) rfl, mj_t2 167 (by decide +kernel) rfl⟩, mj_t1 4 (by decide +kernel) rfl, mj_t2 168 (by decide +kernel) rfl, by decide +kernel, by decide +kernel, by decide +kernel⟩
theorem yv_X2_refresh : mj_yV yX2_refresh cX2_refresh 2 (none) 0 := ⟨⟨mj_t2 102 (by decide +kernel) rfl, mj_t2 103 (by decide +kernel) rfl⟩, mj_t1 4 (by decide +kernel) rfl, mj_t2 104 (by decide +kernel) rfl, by decide +kernel, by decide +kernel, by decide +kernel⟩
theorem yv_X2_heightAt : mj_yV yX2_heightAt cX2_heightAt 3 (some .int) 2 := ⟨⟨mj_t3 97 (by decide +kernel) rfl, mj_t3 98 (by decide +kernel) rfl⟩, mj_t1 4 (by decide +kernel) rfl, mj_t3 99 (by decide +kernel) rfl, by decide +kernel, by decide +kernel, by decide +kernel⟩
theorem yv_X2_modelHeightAt : mj_yV yX2_modelHeightAt cX2_modelHeightAt 3 (some .int) 2 := ⟨⟨mj_t4 223 (by decide +kernel) rfl, mj_t4 224 (by decide +kernel) rfl⟩, mj_t1 4 (by decide +kernel) rfl, mj_t4 225 (by decide +kernel) rfl, by decide +kernel, by decide +kernel, by decide +kernel⟩
theorem yv_X2_think : mj_yV yX2_think cX2_think 5 (none) 4 := ⟨⟨mj_t5 13 (by decide +kernel) rfl, mj_t5 14 (by decide +kernel) rfl⟩, mj_t1 4 (by decide +kernel) rfl, mj_t5 15 (by decide +kernel) rfl, by decide +kernel, by decide +kernel, by decide +kernel⟩
theorem yv_X2_thoughtHeightAt : mj_yV yX2_thoughtHeightAt cX2_thoughtHeightAt 2 (some .int) 1 := ⟨⟨mj_t5 19 (by decide +kernel) rfl, mj_t5 20 (by decide +kernel) rfl⟩, mj_t1 4 (by decide +kernel) rfl, mj_t5 21 (by decide +kernel) rfl, by decide +kernel, by decide +kernel, by decide +kernel⟩
theorem yv_X2_name : mj_yV yX2_name cX2_name 4 (none) 3 := ⟨⟨mj_t2 107 (by decide +kernel) rfl, mj_t0 0 (by decide +kernel) rfl⟩, mj_t1 4 (by decide +kernel) rfl, mj_t2 108 (by decide +kernel) rfl, by decide +kernel, by decide +kernel, by decide +kernel⟩
theorem yv_X2_grow : mj_yV yX2_grow cX2_grow 8 (none) 5 := ⟨⟨mj_t2 111 (by decide +kernel) rfl, mj_t0 1 (by decide +kernel) rfl⟩, mj_t1 4 (by decide +kernel) rfl, mj_t2 112 (by decide +kernel) rfl, by decide +kernel, by decide +kernel, by decide +kernel⟩
theorem yv_X3_foundChild : mj_yV yX3_foundChild cX3_foundChild 1 (some .int) 0 := ⟨⟨mj_t4 65 (by decide +kernel) rfl, mj_t4 66 (by decide +kernel) rfl⟩, mj_t1 6 (by decide +kernel) rfl, mj_t4 67 (by decide +kernel) rfl, by decide +kernel, by decide +kernel, by decide +kernel⟩
theorem yv_X3_foundMonth : mj_yV yX3_foundMonth cX3_foundMonth 1 (some .int) 0 := ⟨⟨mj_t4 69 (by decide +kernel) rfl, mj_t4 70 (by decide +kernel) rfl⟩, mj_t1 6 (by decide +kernel) rfl, mj_t4 71 (by decide +kernel) rfl, by decide +kernel, by decide +kernel, by decide +kernel⟩
theorem yv_X3_foundDistance : mj_yV yX3_foundDistance cX3_foundDistance 1 (some .int) 0 := ⟨⟨mj_t4 73 (by decide +kernel) rfl, mj_t4 74 (by decide +kernel) rfl⟩, mj_t1 6 (by decide +kernel) rfl, mj_t4 75 (by decide +kernel) rfl, by decide +kernel, by decide +kernel, by decide +kernel⟩
theorem yv_X3_distance : mj_yV yX3_distance cX3_distance 5 (some .int) 4 := ⟨⟨mj_t4 29 (by decide +kernel) rfl, mj_t4 30 (by decide +kernel) rfl⟩, mj_t1 6 (by decide +kernel) rfl, mj_t4 31 (by decide +kernel) rfl, by decide +kernel, by decide +kernel, by decide +kernel⟩
theorem ys_X3_made : mj_yS yX3_made cX3_made 2 (some .int) 2 := ⟨mj_t4 38 (by decide +kernel) rfl, mj_t1 6 (by decide +kernel) rfl, mj_t4 39 (by decide +kernel) rfl, by decide +kernel, by decide +kernel, by decide +kernel⟩
theorem yv_X3_findFor : mj_yV yX3_findFor cX3_findFor 2 (some .boolean) 1 := ⟨⟨mj_t4 49 (by decide +kernel) rfl, mj_t4 50 (by decide +kernel) rfl⟩, mj_t1 6 (by decide +kernel) rfl, mj_t4 51 (by decide +kernel) rfl, by decide +kernel, by decide +kernel, by decide +kernel⟩
theorem yv_X3_find : mj_yV yX3_find cX3_find 12 (some .boolean) 4 := ⟨⟨mj_t4 58 (by decide +kernel) rfl, mj_t0 23 (by decide +kernel) rfl⟩, mj_t1 6 (by decide +kernel) rfl, mj_t4 59 (by decide +kernel) rfl, by decide +kernel, by decide +kernel, by decide +kernel⟩
theorem yv_X3_leadingTo : mj_yV yX3_leadingTo cX3_leadingTo 4 (some .int) 1 := ⟨⟨mj_t4 161 (by decide +kernel) rfl, mj_t4 162 (by decide +kernel) rfl⟩, mj_t1 6 (by decide +kernel) rfl, mj_t4 163 (by decide +kernel) rfl, by decide +kernel, by decide +kernel, by decide +kernel⟩
theorem yv_X3_chance : mj_yV yX3_chance cX3_chance 7 (some .int) 2 := ⟨⟨mj_t4 81 (by decide +kernel) rfl, mj_t4 82 (by decide +kernel) rfl⟩, mj_t1 6 (by decide +kernel) rfl, mj_t4 83 (by decide +kernel) rfl, by decide +kernel, by decide +kernel, by decide +kernel⟩
theorem yv_X3_weight : mj_yV yX3_weight cX3_weight 6 (some .int) 2 := ⟨⟨mj_t4 86 (by decide +kernel) rfl, mj_t0 24 (by decide +kernel) rfl⟩, mj_t1 6 (by decide +kernel) rfl, mj_t4 87 (by decide +kernel) rfl, by decide +kernel, by decide +kernel, by decide +kernel⟩
theorem yv_X3_likeliestWay : mj_yV yX3_likeliestWay cX3_likeliestWay 4 (some .int) 1 := ⟨⟨mj_t4 93 (by decide +kernel) rfl, mj_t4 94 (by decide +kernel) rfl⟩, mj_t1 6 (by decide +kernel) rfl, mj_t4 95 (by decide +kernel) rfl, by decide +kernel, by decide +kernel, by decide +kernel⟩
theorem yv_X3_wrongWay : mj_yV yX3_wrongWay cX3_wrongWay 3 (some .int) 1 := ⟨⟨mj_t4 101 (by decide +kernel) rfl, mj_t4 102 (by decide +kernel) rfl⟩, mj_t1 6 (by decide +kernel) rfl, mj_t4 103 (by decide +kernel) rfl, by decide +kernel, by decide +kernel, by decide +kernel⟩
theorem yv_X3_foundDistanceBy : mj_yV yX3_foundDistanceBy cX3_foundDistanceBy 3 (some .int) 2 := ⟨⟨mj_t4 98 (by decide +kernel) rfl, mj_t0 25 (by decide +kernel) rfl⟩, mj_t1 6 (by decide +kernel) rfl, mj_t4 99 (by decide +kernel) rfl, by decide +kernel, by decide +kernel, by decide +kernel⟩
theorem yv_X3_gather : mj_yV yX3_gather cX3_gather 3 (some .int) 1 := ⟨⟨mj_t4 110 (by decide +kernel) rfl, mj_t4 111 (by decide +kernel) rfl⟩, mj_t1 6 (by decide +kernel) rfl, mj_t4 112 (by decide +kernel) rfl, by decide +kernel, by decide +kernel, by decide +kernel⟩
theorem yv_X3_shareOut : mj_yV yX3_shareOut cX3_shareOut 6 (some .boolean) 1 := ⟨⟨mj_t4 115 (by decide +kernel) rfl, mj_t4 116 (by decide +kernel) rfl⟩, mj_t1 6 (by decide +kernel) rfl, mj_t4 117 (by decide +kernel) rfl, by decide +kernel, by decide +kernel, by decide +kernel⟩
theorem yv_X3_sumOfRow : mj_yV yX3_sumOfRow cX3_sumOfRow 10 (some .int) 2 := ⟨⟨mj_t4 120 (by decide +kernel) rfl, mj_t0 26 (by decide +kernel) rfl⟩, mj_t1 6 (by decide +kernel) rfl, mj_t4 121 (by decide +kernel) rfl, by decide +kernel, by decide +kernel, by decide +kernel⟩
theorem yv_X3_isTriedBehind : mj_yV yX3_isTriedBehind cX3_isTriedBehind 4 (some .boolean) 2 := ⟨⟨mj_t4 125 (by decide +kernel) rfl, mj_t0 27 (by decide +kernel) rfl⟩, mj_t1 6 (by decide +kernel) rfl, mj_t4 126 (by decide +kernel) rfl, by decide +kernel, by decide +kernel, by decide +kernel⟩
theorem yv_X3_sharedSum : mj_yV yX3_sharedSum cX3_sharedSum 1 (some .int) 0 := ⟨⟨mj_t4 129 (by decide +kernel) rfl, mj_t4 130 (by decide +kernel) rfl⟩, mj_t1 6 (by decide +kernel) rfl, mj_t4 131 (by decide +kernel) rfl, by decide +kernel, by decide +kernel, by decide +kernel⟩
theorem yv_X3_sharedChild : mj_yV yX3_sharedChild cX3_sharedChild 2 (some .int) 1 := ⟨⟨mj_t4 133 (by decide +kernel) rfl, mj_t4 134 (by decide +kernel) rfl⟩, mj_t1 6 (by decide +kernel) rfl, mj_t4 135 (by decide +kernel) rfl, by decide +kernel, by decide +kernel, by decide +kernel⟩
theorem yv_X3_slipsFound : mj_yV yX3_slipsFound cX3_slipsFound 12 (some .int) 5 := ⟨⟨mj_t5 27 (by decide +kernel) rfl, mj_t5 28 (by decide +kernel) rfl⟩, mj_t1 6 (by decide +kernel) rfl, mj_t5 29 (by decide +kernel) rfl, by decide +kernel, by decide +kernel, by decide +kernel⟩
theorem yv_X4_become : mj_yV yX4_become cX4_become 5 (none) 3 := ⟨⟨mj_t3 79 (by decide +kernel) rfl, mj_t3 80 (by decide +kernel) rfl⟩, mj_t1 2 (by decide +kernel) rfl, mj_t3 81 (by decide +kernel) rfl, by decide +kernel, by decide +kernel, by decide +kernel⟩
theorem yv_X4_growth : mj_yV yX4_growth cX4_growth 3 (some .int) 1 := ⟨⟨mj_t2 114 (by decide +kernel) rfl, mj_t2 115 (by decide +kernel) rfl⟩, mj_t1 2 (by decide +kernel) rfl, mj_t2 116 (by decide +kernel) rfl, by decide +kernel, by decide +kernel, by decide +kernel⟩
theorem ys_X4_withoutText : mj_yS yX4_withoutText cX4_withoutText 1 (some .int) 1 := ⟨mj_t2 137 (by decide +kernel) rfl, mj_t1 2 (by decide +kernel) rfl, mj_t2 138 (by decide +kernel) rfl, by decide +kernel, by decide +kernel, by decide +kernel⟩
theorem yv_X4_workOut : mj_yV yX4_workOut cX4_workOut 5 (some .int) 1 := ⟨⟨mj_t2 119 (by decide +kernel) rfl, mj_t0 2 (by decide +kernel) rfl⟩, mj_t1 2 (by decide +kernel) rfl, mj_t2 120 (by decide +kernel) rfl, by decide +kernel, by decide +kernel, by decide +kernel⟩
theorem yv_X4_takeStep : mj_yV yX4_takeStep cX4_takeStep 5 (none) 3 := ⟨⟨mj_t2 127 (by decide +kernel) rfl, mj_t0 4 (by decide +kernel) rfl⟩, mj_t1 2 (by decide +kernel) rfl, mj_t2 128 (by decide +kernel) rfl, by decide +kernel, by decide +kernel, by decide +kernel⟩
theorem ys_X4_joined : mj_yS yX4_joined cX4_joined 3 (some .int) 3 := ⟨mj_t2 134 (by decide +kernel) rfl, mj_t1 2 (by decide +kernel) rfl, mj_t2 135 (by decide +kernel) rfl, by decide +kernel, by decide +kernel, by decide +kernel⟩
theorem yv_X4_push : mj_yV yX4_push cX4_push 2 (none) 1 := ⟨⟨mj_t2 131 (by decide +kernel) rfl, mj_t0 5 (by decide +kernel) rfl⟩, mj_t1 2 (by decide +kernel) rfl, mj_t2 132 (by decide +kernel) rfl, by decide +kernel, by decide +kernel, by decide +kernel⟩
theorem yv_X4_pop : mj_yV yX4_pop cX4_pop 1 (some .int) 0 := ⟨⟨mj_t2 123 (by decide +kernel) rfl, mj_t0 3 (by decide +kernel) rfl⟩, mj_t1 2 (by decide +kernel) rfl, mj_t2 124 (by decide +kernel) rfl, by decide +kernel, by decide +kernel, by decide +kernel⟩
theorem yv_X5_size : mj_yV yX5_size cX5_size 1 (some .int) 0 := ⟨⟨mj_t3 118 (by decide +kernel) rfl, mj_t3 119 (by decide +kernel) rfl⟩, mj_t1 5 (by decide +kernel) rfl, mj_t3 120 (by decide +kernel) rfl, by decide +kernel, by decide +kernel, by decide +kernel⟩
theorem yv_X5_has : mj_yV yX5_has cX5_has 2 (some .boolean) 1 := ⟨⟨mj_t3 177 (by decide +kernel) rfl, mj_t3 178 (by decide +kernel) rfl⟩, mj_t1 5 (by decide +kernel) rfl, mj_t3 179 (by decide +kernel) rfl, by decide +kernel, by decide +kernel, by decide +kernel⟩
theorem yv_X5_add : mj_yV yX5_add cX5_add 5 (some .int) 4 := ⟨⟨mj_t3 122 (by decide +kernel) rfl, mj_t3 123 (by decide +kernel) rfl⟩, mj_t1 5 (by decide +kernel) rfl, mj_t3 124 (by decide +kernel) rfl, by decide +kernel, by decide +kernel, by decide +kernel⟩
theorem yv_X5_told : mj_yV yX5_told cX5_told 3 (some .int) 2 := ⟨⟨mj_t3 186 (by decide +kernel) rfl, mj_t3 187 (by decide +kernel) rfl⟩, mj_t1 5 (by decide +kernel) rfl, mj_t3 188 (by decide +kernel) rfl, by decide +kernel, by decide +kernel, by decide +kernel⟩
theorem yv_X5_heightOf : mj_yV yX5_heightOf cX5_heightOf 2 (some .int) 1 := ⟨⟨mj_t3 190 (by decide +kernel) rfl, mj_t3 191 (by decide +kernel) rfl⟩, mj_t1 5 (by decide +kernel) rfl, mj_t3 192 (by decide +kernel) rfl, by decide +kernel, by decide +kernel, by decide +kernel⟩
theorem yv_X5_nameOf : mj_yV yX5_nameOf cX5_nameOf 2 (some .int) 1 := ⟨⟨mj_t3 194 (by decide +kernel) rfl, mj_t3 195 (by decide +kernel) rfl⟩, mj_t1 5 (by decide +kernel) rfl, mj_t3 196 (by decide +kernel) rfl, by decide +kernel, by decide +kernel, by decide +kernel⟩
theorem yv_X5_monthOf : mj_yV yX5_monthOf cX5_monthOf 2 (some .int) 1 := ⟨⟨mj_t3 173 (by decide +kernel) rfl, mj_t3 174 (by decide +kernel) rfl⟩, mj_t1 5 (by decide +kernel) rfl, mj_t3 175 (by decide +kernel) rfl, by decide +kernel, by decide +kernel, by decide +kernel⟩
theorem yv_X5_wayOf : mj_yV yX5_wayOf cX5_wayOf 2 (some .int) 1 := ⟨⟨mj_t3 198 (by decide +kernel) rfl, mj_t3 199 (by decide +kernel) rfl⟩, mj_t1 5 (by decide +kernel) rfl, mj_t3 200 (by decide +kernel) rfl, by decide +kernel, by decide +kernel, by decide +kernel⟩
theorem yv_X5_becomeHeight : mj_yV yX5_becomeHeight cX5_becomeHeight 3 (none) 2 := ⟨⟨mj_t3 233 (by decide +kernel) rfl, mj_t3 234 (by decide +kernel) rfl⟩, mj_t1 5 (by decide +kernel) rfl, mj_t3 235 (by decide +kernel) rfl, by decide +kernel, by decide +kernel, by decide +kernel⟩
theorem yv_X5_becomeWay : mj_yV yX5_becomeWay cX5_becomeWay 3 (none) 2 := ⟨⟨mj_t3 237 (by decide +kernel) rfl, mj_t3 238 (by decide +kernel) rfl⟩, mj_t1 5 (by decide +kernel) rfl, mj_t3 239 (by decide +kernel) rfl, by decide +kernel, by decide +kernel, by decide +kernel⟩
theorem yv_X5_cover : mj_yV yX5_cover cX5_cover 2 (none) 1 := ⟨⟨mj_t3 160 (by decide +kernel) rfl, mj_t3 161 (by decide +kernel) rfl⟩, mj_t1 5 (by decide +kernel) rfl, mj_t3 162 (by decide +kernel) rfl, by decide +kernel, by decide +kernel, by decide +kernel⟩
theorem yv_X5_covered : mj_yV yX5_covered cX5_covered 3 (some .int) 0 := ⟨⟨mj_t3 165 (by decide +kernel) rfl, mj_t3 166 (by decide +kernel) rfl⟩, mj_t1 5 (by decide +kernel) rfl, mj_t3 167 (by decide +kernel) rfl, by decide +kernel, by decide +kernel, by decide +kernel⟩
theorem yv_X5_isCovered : mj_yV yX5_isCovered cX5_isCovered 3 (some .boolean) 1 := ⟨⟨mj_t3 170 (by decide +kernel) rfl, mj_t0 16 (by decide +kernel) rfl⟩, mj_t1 5 (by decide +kernel) rfl, mj_t3 171 (by decide +kernel) rfl, by decide +kernel, by decide +kernel, by decide +kernel⟩
theorem yv_X5_turnedMarks : mj_yV yX5_turnedMarks cX5_turnedMarks 4 (some .int) 1 := ⟨⟨mj_t4 141 (by decide +kernel) rfl, mj_t4 142 (by decide +kernel) rfl⟩, mj_t1 5 (by decide +kernel) rfl, mj_t4 143 (by decide +kernel) rfl, by decide +kernel, by decide +kernel, by decide +kernel⟩
theorem yv_X5_firstTurned : mj_yV yX5_firstTurned cX5_firstTurned 3 (some .int) 1 := ⟨⟨mj_t4 153 (by decide +kernel) rfl, mj_t4 154 (by decide +kernel) rfl⟩, mj_t1 5 (by decide +kernel) rfl, mj_t4 155 (by decide +kernel) rfl, by decide +kernel, by decide +kernel, by decide +kernel⟩
theorem yv_X5_isTurned : mj_yV yX5_isTurned cX5_isTurned 4 (some .boolean) 2 := ⟨⟨mj_t4 146 (by decide +kernel) rfl, mj_t0 28 (by decide +kernel) rfl⟩, mj_t1 5 (by decide +kernel) rfl, mj_t4 147 (by decide +kernel) rfl, by decide +kernel, by decide +kernel, by decide +kernel⟩
theorem yv_X5_isToldOf : mj_yV yX5_isToldOf cX5_isToldOf 3 (some .boolean) 2 := ⟨⟨mj_t4 150 (by decide +kernel) rfl, mj_t0 29 (by decide +kernel) rfl⟩, mj_t1 5 (by decide +kernel) rfl, mj_t4 151 (by decide +kernel) rfl, by decide +kernel, by decide +kernel, by decide +kernel⟩
theorem yv_X6_endMonth : mj_yV yX6_endMonth cX6_endMonth 2 (some .int) 1 := ⟨⟨mj_t4 174 (by decide +kernel) rfl, mj_t4 175 (by decide +kernel) rfl⟩, mj_t1 7 (by decide +kernel) rfl, mj_t4 176 (by decide +kernel) rfl, by decide +kernel, by decide +kernel, by decide +kernel⟩
theorem yv_X6_endOf : mj_yV yX6_endOf cX6_endOf 2 (some .int) 1 := ⟨⟨mj_t4 170 (by decide +kernel) rfl, mj_t4 171 (by decide +kernel) rfl⟩, mj_t1 7 (by decide +kernel) rfl, mj_t4 172 (by decide +kernel) rfl, by decide +kernel, by decide +kernel, by decide +kernel⟩
theorem yv_X6_twiceAtTwo : mj_yV yX6_twiceAtTwo cX6_twiceAtTwo 3 (some .int) 1 := ⟨⟨mj_t4 184 (by decide +kernel) rfl, mj_t4 185 (by decide +kernel) rfl⟩, mj_t1 7 (by decide +kernel) rfl, mj_t4 186 (by decide +kernel) rfl, by decide +kernel, by decide +kernel, by decide +kernel⟩
theorem yv_X6_byParents : mj_yV yX6_byParents cX6_byParents 3 (some .int) 1 := ⟨⟨mj_t4 189 (by decide +kernel) rfl, mj_t4 190 (by decide +kernel) rfl⟩, mj_t1 7 (by decide +kernel) rfl, mj_t4 191 (by decide +kernel) rfl, by decide +kernel, by decide +kernel, by decide +kernel⟩
theorem yv_X6_yearOf : mj_yV yX6_yearOf cX6_yearOf 5 (some .int) 2 := ⟨⟨mj_t4 198 (by decide +kernel) rfl, mj_t4 199 (by decide +kernel) rfl⟩, mj_t1 7 (by decide +kernel) rfl, mj_t4 200 (by decide +kernel) rfl, by decide +kernel, by decide +kernel, by decide +kernel⟩
theorem ys_X6_isBetter : mj_yS yX6_isBetter cX6_isBetter 3 (some .boolean) 3 := ⟨mj_t4 210 (by decide +kernel) rfl, mj_t1 7 (by decide +kernel) rfl, mj_t4 211 (by decide +kernel) rfl, by decide +kernel, by decide +kernel, by decide +kernel⟩
theorem yv_X6_isWholeYear : mj_yV yX6_isWholeYear cX6_isWholeYear 3 (some .boolean) 2 := ⟨⟨mj_t4 203 (by decide +kernel) rfl, mj_t0 30 (by decide +kernel) rfl⟩, mj_t1 7 (by decide +kernel) rfl, mj_t4 204 (by decide +kernel) rfl, by decide +kernel, by decide +kernel, by decide +kernel⟩
theorem yv_X6_growthInYear : mj_yV yX6_growthInYear cX6_growthInYear 4 (some .int) 2 := ⟨⟨mj_t4 206 (by decide +kernel) rfl, mj_t4 207 (by decide +kernel) rfl⟩, mj_t1 7 (by decide +kernel) rfl, mj_t4 208 (by decide +kernel) rfl, by decide +kernel, by decide +kernel, by decide +kernel⟩
theorem yv_X6_lineAt : mj_yV yX6_lineAt cX6_lineAt 4 (some .int) 2 := ⟨⟨mj_t4 219 (by decide +kernel) rfl, mj_t4 220 (by decide +kernel) rfl⟩, mj_t1 7 (by decide +kernel) rfl, mj_t4 221 (by decide +kernel) rfl, by decide +kernel, by decide +kernel, by decide +kernel⟩
theorem yv_X6_firstFall : mj_yV yX6_firstFall cX6_firstFall 6 (some .int) 1 := ⟨⟨mj_t4 231 (by decide +kernel) rfl, mj_t4 232 (by decide +kernel) rfl⟩, mj_t1 7 (by decide +kernel) rfl, mj_t4 233 (by decide +kernel) rfl, by decide +kernel, by decide +kernel, by decide +kernel⟩
theorem yv_X6_firstOvertaking : mj_yV yX6_firstOvertaking cX6_firstOvertaking 5 (some .int) 2 := ⟨⟨mj_t5 1 (by decide +kernel) rfl, mj_t5 2 (by decide +kernel) rfl⟩, mj_t1 7 (by decide +kernel) rfl, mj_t5 3 (by decide +kernel) rfl, by decide +kernel, by decide +kernel, by decide +kernel⟩
theorem yv_X6_isHigher : mj_yV yX6_isHigher cX6_isHigher 4 (some .boolean) 3 := ⟨⟨mj_t5 6 (by decide +kernel) rfl, mj_t0 31 (by decide +kernel) rfl⟩, mj_t1 7 (by decide +kernel) rfl, mj_t5 7 (by decide +kernel) rfl, by decide +kernel, by decide +kernel, by decide +kernel⟩
theorem yv_X7_tapeLength : mj_yV yX7_tapeLength cX7_tapeLength 1 (some .int) 0 := ⟨⟨mj_t2 174 (by decide +kernel) rfl, mj_t2 175 (by decide +kernel) rfl⟩, mj_t1 3 (by decide +kernel) rfl, mj_t2 176 (by decide +kernel) rfl, by decide +kernel, by decide +kernel, by decide +kernel⟩
theorem yv_X7_take : mj_yV yX7_take cX7_take 2 (some .int) 1 := ⟨⟨mj_t2 178 (by decide +kernel) rfl, mj_t2 179 (by decide +kernel) rfl⟩, mj_t1 3 (by decide +kernel) rfl, mj_t2 180 (by decide +kernel) rfl, by decide +kernel, by decide +kernel, by decide +kernel⟩
theorem yv_X7_emptyTape : mj_yV yX7_emptyTape cX7_emptyTape 1 (none) 0 := ⟨⟨mj_t3 84 (by decide +kernel) rfl, mj_t3 85 (by decide +kernel) rfl⟩, mj_t1 3 (by decide +kernel) rfl, mj_t3 86 (by decide +kernel) rfl, by decide +kernel, by decide +kernel, by decide +kernel⟩
theorem yv_X7_giveTo : mj_yV yX7_giveTo cX7_giveTo 2 (none) 1 := ⟨⟨mj_t3 75 (by decide +kernel) rfl, mj_t3 76 (by decide +kernel) rfl⟩, mj_t1 3 (by decide +kernel) rfl, mj_t3 77 (by decide +kernel) rfl, by decide +kernel, by decide +kernel, by decide +kernel⟩
theorem yv_X7_read : mj_yV yX7_read cX7_read 3 (some .int) 0 := ⟨⟨mj_t2 186 (by decide +kernel) rfl, mj_t2 187 (by decide +kernel) rfl⟩, mj_t1 3 (by decide +kernel) rfl, mj_t2 188 (by decide +kernel) rfl, by decide +kernel, by decide +kernel, by decide +kernel⟩
theorem yv_X7_readLine : mj_yV yX7_readLine cX7_readLine 2 (some .boolean) 0 := ⟨⟨mj_t2 191 (by decide +kernel) rfl, mj_t0 6 (by decide +kernel) rfl⟩, mj_t1 3 (by decide +kernel) rfl, mj_t2 192 (by decide +kernel) rfl, by decide +kernel, by decide +kernel, by decide +kernel⟩
theorem yv_X7_readJoined : mj_yV yX7_readJoined cX7_readJoined 7 (some .boolean) 2 := ⟨⟨mj_t2 195 (by decide +kernel) rfl, mj_t0 7 (by decide +kernel) rfl⟩, mj_t1 3 (by decide +kernel) rfl, mj_t2 196 (by decide +kernel) rfl, by decide +kernel, by decide +kernel, by decide +kernel⟩
theorem yv_X7_readTighter : mj_yV yX7_readTighter cX7_readTighter 3 (some .boolean) 2 := ⟨⟨mj_t2 199 (by decide +kernel) rfl, mj_t0 8 (by decide +kernel) rfl⟩, mj_t1 3 (by decide +kernel) rfl, mj_t2 200 (by decide +kernel) rfl, by decide +kernel, by decide +kernel, by decide +kernel⟩
theorem yv_X7_readOperand : mj_yV yX7_readOperand cX7_readOperand 4 (some .boolean) 1 := ⟨⟨mj_t2 203 (by decide +kernel) rfl, mj_t0 9 (by decide +kernel) rfl⟩, mj_t1 3 (by decide +kernel) rfl, mj_t2 204 (by decide +kernel) rfl, by decide +kernel, by decide +kernel, by decide +kernel⟩
theorem yv_X7_readOpened : mj_yV yX7_readOpened cX7_readOpened 4 (some .boolean) 2 := ⟨⟨mj_t2 211 (by decide +kernel) rfl, mj_t0 11 (by decide +kernel) rfl⟩, mj_t1 3 (by decide +kernel) rfl, mj_t2 212 (by decide +kernel) rfl, by decide +kernel, by decide +kernel, by decide +kernel⟩
theorem yv_X7_readNumber : mj_yV yX7_readNumber cX7_readNumber 3 (none) 0 := ⟨⟨mj_t2 226 (by decide +kernel) rfl, mj_t0 14 (by decide +kernel) rfl⟩, mj_t1 3 (by decide +kernel) rfl, mj_t2 227 (by decide +kernel) rfl, by decide +kernel, by decide +kernel, by decide +kernel⟩
theorem ys_X7_isOperator : mj_yS yX7_isOperator cX7_isOperator 2 (some .boolean) 2 := ⟨mj_t3 72 (by decide +kernel) rfl, mj_t1 3 (by decide +kernel) rfl, mj_t3 73 (by decide +kernel) rfl, by decide +kernel, by decide +kernel, by decide +kernel⟩
theorem ys_X7_isDigit : mj_yS yX7_isDigit cX7_isDigit 1 (some .boolean) 1 := ⟨mj_t2 222 (by decide +kernel) rfl, mj_t1 3 (by decide +kernel) rfl, mj_t2 223 (by decide +kernel) rfl, by decide +kernel, by decide +kernel, by decide +kernel⟩
theorem yv_X7_seen : mj_yV yX7_seen cX7_seen 1 (some .int) 0 := ⟨⟨mj_t2 207 (by decide +kernel) rfl, mj_t0 10 (by decide +kernel) rfl⟩, mj_t1 3 (by decide +kernel) rfl, mj_t2 208 (by decide +kernel) rfl, by decide +kernel, by decide +kernel, by decide +kernel⟩
theorem yv_X7_skip : mj_yV yX7_skip cX7_skip 2 (some .boolean) 1 := ⟨⟨mj_t2 215 (by decide +kernel) rfl, mj_t0 12 (by decide +kernel) rfl⟩, mj_t1 3 (by decide +kernel) rfl, mj_t2 216 (by decide +kernel) rfl, by decide +kernel, by decide +kernel, by decide +kernel⟩
theorem yv_X7_write : mj_yV yX7_write cX7_write 3 (none) 2 := ⟨⟨mj_t2 219 (by decide +kernel) rfl, mj_t0 13 (by decide +kernel) rfl⟩, mj_t1 3 (by decide +kernel) rfl, mj_t2 220 (by decide +kernel) rfl, by decide +kernel, by decide +kernel, by decide +kernel⟩
theorem ys_X8_isSort : mj_yS yX8_isSort cX8_isSort 1 (some .boolean) 1 := ⟨mj_t5 132 (by decide +kernel) rfl, mj_t1 10 (by decide +kernel) rfl, mj_t5 133 (by decide +kernel) rfl, by decide +kernel, by decide +kernel, by decide +kernel⟩
theorem yv_X8_has : mj_yV yX8_has cX8_has 2 (some .boolean) 1 := ⟨⟨mj_t3 130 (by decide +kernel) rfl, mj_t3 131 (by decide +kernel) rfl⟩, mj_t1 10 (by decide +kernel) rfl, mj_t3 132 (by decide +kernel) rfl, by decide +kernel, by decide +kernel, by decide +kernel⟩
theorem yv_X8_holdsRow : mj_yV yX8_holdsRow cX8_holdsRow 2 (some .boolean) 1 := ⟨⟨mj_t5 148 (by decide +kernel) rfl, mj_t5 149 (by decide +kernel) rfl⟩, mj_t1 10 (by decide +kernel) rfl, mj_t5 150 (by decide +kernel) rfl, by decide +kernel, by decide +kernel, by decide +kernel⟩
theorem yv_X8_holdsShorts : mj_yV yX8_holdsShorts cX8_holdsShorts 2 (some .boolean) 1 := ⟨⟨mj_t3 139 (by decide +kernel) rfl, mj_t3 140 (by decide +kernel) rfl⟩, mj_t1 10 (by decide +kernel) rfl, mj_t3 141 (by decide +kernel) rfl, by decide +kernel, by decide +kernel, by decide +kernel⟩
theorem yv_X8_holdsNothing : mj_yV yX8_holdsNothing cX8_holdsNothing 2 (some .boolean) 1 := ⟨⟨mj_t3 134 (by decide +kernel) rfl, mj_t3 135 (by decide +kernel) rfl⟩, mj_t1 10 (by decide +kernel) rfl, mj_t3 136 (by decide +kernel) rfl, by decide +kernel, by decide +kernel, by decide +kernel⟩
theorem yv_X8_bodyOn : mj_yV yX8_bodyOn cX8_bodyOn 2 (some .int) 1 := ⟨⟨mj_t5 181 (by decide +kernel) rfl, mj_t5 182 (by decide +kernel) rfl⟩, mj_t1 10 (by decide +kernel) rfl, mj_t5 183 (by decide +kernel) rfl, by decide +kernel, by decide +kernel, by decide +kernel⟩
theorem yv_X8_holdBody : mj_yV yX8_holdBody cX8_holdBody 3 (none) 2 := ⟨⟨mj_t5 124 (by decide +kernel) rfl, mj_t5 125 (by decide +kernel) rfl⟩, mj_t1 10 (by decide +kernel) rfl, mj_t5 126 (by decide +kernel) rfl, by decide +kernel, by decide +kernel, by decide +kernel⟩
theorem yv_X8_holdRow : mj_yV yX8_holdRow cX8_holdRow 5 (none) 3 := ⟨⟨mj_t5 136 (by decide +kernel) rfl, mj_t5 137 (by decide +kernel) rfl⟩, mj_t1 10 (by decide +kernel) rfl, mj_t5 138 (by decide +kernel) rfl, by decide +kernel, by decide +kernel, by decide +kernel⟩
theorem yv_X8_areAlike : mj_yV yX8_areAlike cX8_areAlike 3 (some .boolean) 2 := ⟨⟨mj_t5 168 (by decide +kernel) rfl, mj_t5 169 (by decide +kernel) rfl⟩, mj_t1 10 (by decide +kernel) rfl, mj_t5 170 (by decide +kernel) rfl, by decide +kernel, by decide +kernel, by decide +kernel⟩
theorem yv_X8_hasPlaces : mj_yV yX8_hasPlaces cX8_hasPlaces 4 (some .boolean) 3 := ⟨⟨mj_t3 147 (by decide +kernel) rfl, mj_t3 148 (by decide +kernel) rfl⟩, mj_t1 10 (by decide +kernel) rfl, mj_t3 149 (by decide +kernel) rfl, by decide +kernel, by decide +kernel, by decide +kernel⟩
theorem yv_X8_get : mj_yV yX8_get cX8_get 3 (some .long) 2 := ⟨⟨mj_t3 151 (by decide +kernel) rfl, mj_t3 152 (by decide +kernel) rfl⟩, mj_t1 10 (by decide +kernel) rfl, mj_t3 153 (by decide +kernel) rfl, by decide +kernel, by decide +kernel, by decide +kernel⟩
theorem yv_X8_set : mj_yV yX8_set cX8_set 5 (none) 3 := ⟨⟨mj_t5 152 (by decide +kernel) rfl, mj_t5 153 (by decide +kernel) rfl⟩, mj_t1 10 (by decide +kernel) rfl, mj_t5 154 (by decide +kernel) rfl, by decide +kernel, by decide +kernel, by decide +kernel⟩
theorem ys_X8_lowestBits : mj_yS yX8_lowestBits cX8_lowestBits 3 (some .long) 2 := ⟨mj_t5 156 (by decide +kernel) rfl, mj_t1 10 (by decide +kernel) rfl, mj_t5 157 (by decide +kernel) rfl, by decide +kernel, by decide +kernel, by decide +kernel⟩
theorem yv_X8_move : mj_yV yX8_move cX8_move 6 (none) 5 := ⟨⟨mj_t5 172 (by decide +kernel) rfl, mj_t5 173 (by decide +kernel) rfl⟩, mj_t1 10 (by decide +kernel) rfl, mj_t5 174 (by decide +kernel) rfl, by decide +kernel, by decide +kernel, by decide +kernel⟩
theorem yv_X9_child : mj_yV yX9_child cX9_child 9 (some .int) 3 := ⟨⟨mj_t2 78 (by decide +kernel) rfl, mj_t2 79 (by decide +kernel) rfl⟩, mj_t1 1 (by decide +kernel) rfl, mj_t2 80 (by decide +kernel) rfl, by decide +kernel, by decide +kernel, by decide +kernel⟩
theorem yv_X9_want : mj_yV yX9_want cX9_want 4 (some .int) 2 := ⟨⟨mj_t2 147 (by decide +kernel) rfl, mj_t2 148 (by decide +kernel) rfl⟩, mj_t1 1 (by decide +kernel) rfl, mj_t2 149 (by decide +kernel) rfl, by decide +kernel, by decide +kernel, by decide +kernel⟩
theorem yv_X9_feed : mj_yV yX9_feed cX9_feed 2 (some .int) 1 := ⟨⟨mj_t2 170 (by decide +kernel) rfl, mj_t2 171 (by decide +kernel) rfl⟩, mj_t1 1 (by decide +kernel) rfl, mj_t2 172 (by decide +kernel) rfl, by decide +kernel, by decide +kernel, by decide +kernel⟩
theorem yv_X9_law : mj_yV yX9_law cX9_law 2 (some .int) 0 := ⟨⟨mj_t2 182 (by decide +kernel) rfl, mj_t2 183 (by decide +kernel) rfl⟩, mj_t1 1 (by decide +kernel) rfl, mj_t2 184 (by decide +kernel) rfl, by decide +kernel, by decide +kernel, by decide +kernel⟩
theorem yv_X9_height : mj_yV yX9_height cX9_height 3 (some .int) 2 := ⟨⟨mj_t3 89 (by decide +kernel) rfl, mj_t3 90 (by decide +kernel) rfl⟩, mj_t1 1 (by decide +kernel) rfl, mj_t3 91 (by decide +kernel) rfl, by decide +kernel, by decide +kernel, by decide +kernel⟩
theorem yv_X9_wants : mj_yV yX9_wants cX9_wants 2 (some .int) 1 := ⟨⟨mj_t3 102 (by decide +kernel) rfl, mj_t3 103 (by decide +kernel) rfl⟩, mj_t1 1 (by decide +kernel) rfl, mj_t3 104 (by decide +kernel) rfl, by decide +kernel, by decide +kernel, by decide +kernel⟩
theorem yv_X9_mark : mj_yV yX9_mark cX9_mark 4 (some .int) 3 := ⟨⟨mj_t3 111 (by decide +kernel) rfl, mj_t3 112 (by decide +kernel) rfl⟩, mj_t1 1 (by decide +kernel) rfl, mj_t3 113 (by decide +kernel) rfl, by decide +kernel, by decide +kernel, by decide +kernel⟩
theorem yv_X9_marks : mj_yV yX9_marks cX9_marks 6 (some .int) 3 := ⟨⟨mj_t3 126 (by decide +kernel) rfl, mj_t3 127 (by decide +kernel) rfl⟩, mj_t1 1 (by decide +kernel) rfl, mj_t3 128 (by decide +kernel) rfl, by decide +kernel, by decide +kernel, by decide +kernel⟩
theorem yv_X9_paint : mj_yV yX9_paint cX9_paint 2 (some .int) 1 := ⟨⟨mj_t3 156 (by decide +kernel) rfl, mj_t3 157 (by decide +kernel) rfl⟩, mj_t1 1 (by decide +kernel) rfl, mj_t3 158 (by decide +kernel) rfl, by decide +kernel, by decide +kernel, by decide +kernel⟩
theorem yv_X9_of : mj_yV yX9_of cX9_of 3 (some .int) 2 := ⟨⟨mj_t3 181 (by decide +kernel) rfl, mj_t3 182 (by decide +kernel) rfl⟩, mj_t1 1 (by decide +kernel) rfl, mj_t3 183 (by decide +kernel) rfl, by decide +kernel, by decide +kernel, by decide +kernel⟩
theorem yv_X9_mend : mj_yV yX9_mend cX9_mend 5 (some .int) 3 := ⟨⟨mj_t3 209 (by decide +kernel) rfl, mj_t3 210 (by decide +kernel) rfl⟩, mj_t1 1 (by decide +kernel) rfl, mj_t3 211 (by decide +kernel) rfl, by decide +kernel, by decide +kernel, by decide +kernel⟩
theorem yv_X9_off : mj_yV yX9_off cX9_off 4 (some .int) 3 := ⟨⟨mj_t4 20 (by decide +kernel) rfl, mj_t4 21 (by decide +kernel) rfl⟩, mj_t1 1 (by decide +kernel) rfl, mj_t4 22 (by decide +kernel) rfl, by decide +kernel, by decide +kernel, by decide +kernel⟩
theorem yv_X9_whose : mj_yV yX9_whose cX9_whose 3 (some .int) 2 := ⟨⟨mj_t4 45 (by decide +kernel) rfl, mj_t4 46 (by decide +kernel) rfl⟩, mj_t1 1 (by decide +kernel) rfl, mj_t4 47 (by decide +kernel) rfl, by decide +kernel, by decide +kernel, by decide +kernel⟩
theorem yv_X9_odds : mj_yV yX9_odds cX9_odds 2 (some .int) 1 := ⟨⟨mj_t4 77 (by decide +kernel) rfl, mj_t4 78 (by decide +kernel) rfl⟩, mj_t1 1 (by decide +kernel) rfl, mj_t4 79 (by decide +kernel) rfl, by decide +kernel, by decide +kernel, by decide +kernel⟩
theorem yv_X9_how : mj_yV yX9_how cX9_how 3 (some .int) 2 := ⟨⟨mj_t4 89 (by decide +kernel) rfl, mj_t4 90 (by decide +kernel) rfl⟩, mj_t1 1 (by decide +kernel) rfl, mj_t4 91 (by decide +kernel) rfl, by decide +kernel, by decide +kernel, by decide +kernel⟩
theorem yv_X9_together : mj_yV yX9_together cX9_together 4 (some .int) 2 := ⟨⟨mj_t4 106 (by decide +kernel) rfl, mj_t4 107 (by decide +kernel) rfl⟩, mj_t1 1 (by decide +kernel) rfl, mj_t4 108 (by decide +kernel) rfl, by decide +kernel, by decide +kernel, by decide +kernel⟩
theorem yv_X9_turned : mj_yV yX9_turned cX9_turned 3 (some .int) 2 := ⟨⟨mj_t4 137 (by decide +kernel) rfl, mj_t4 138 (by decide +kernel) rfl⟩, mj_t1 1 (by decide +kernel) rfl, mj_t4 139 (by decide +kernel) rfl, by decide +kernel, by decide +kernel, by decide +kernel⟩
theorem yv_X9_led : mj_yV yX9_led cX9_led 2 (some .int) 1 := ⟨⟨mj_t4 157 (by decide +kernel) rfl, mj_t4 158 (by decide +kernel) rfl⟩, mj_t1 1 (by decide +kernel) rfl, mj_t4 159 (by decide +kernel) rfl, by decide +kernel, by decide +kernel, by decide +kernel⟩
theorem yv_X9_tall : mj_yV yX9_tall cX9_tall 4 (some .int) 2 := ⟨⟨mj_t4 166 (by decide +kernel) rfl, mj_t4 167 (by decide +kernel) rfl⟩, mj_t1 1 (by decide +kernel) rfl, mj_t4 168 (by decide +kernel) rfl, by decide +kernel, by decide +kernel, by decide +kernel⟩
theorem yv_X9_year : mj_yV yX9_year cX9_year 4 (some .int) 2 := ⟨⟨mj_t4 194 (by decide +kernel) rfl, mj_t4 195 (by decide +kernel) rfl⟩, mj_t1 1 (by decide +kernel) rfl, mj_t4 196 (by decide +kernel) rfl, by decide +kernel, by decide +kernel, by decide +kernel⟩
theorem yv_X9_line : mj_yV yX9_line cX9_line 3 (some .int) 2 := ⟨⟨mj_t4 214 (by decide +kernel) rfl, mj_t4 215 (by decide +kernel) rfl⟩, mj_t1 1 (by decide +kernel) rfl, mj_t4 216 (by decide +kernel) rfl, by decide +kernel, by decide +kernel, by decide +kernel⟩
theorem yv_X9_falls : mj_yV yX9_falls cX9_falls 2 (some .int) 1 := ⟨⟨mj_t4 227 (by decide +kernel) rfl, mj_t4 228 (by decide +kernel) rfl⟩, mj_t1 1 (by decide +kernel) rfl, mj_t4 229 (by decide +kernel) rfl, by decide +kernel, by decide +kernel, by decide +kernel⟩
theorem yv_X9_overtakes : mj_yV yX9_overtakes cX9_overtakes 2 (some .int) 1 := ⟨⟨mj_t4 237 (by decide +kernel) rfl, mj_t4 238 (by decide +kernel) rfl⟩, mj_t1 1 (by decide +kernel) rfl, mj_t4 239 (by decide +kernel) rfl, by decide +kernel, by decide +kernel, by decide +kernel⟩
theorem yv_X9_enough : mj_yV yX9_enough cX9_enough 4 (some .int) 3 := ⟨⟨mj_t5 9 (by decide +kernel) rfl, mj_t5 10 (by decide +kernel) rfl⟩, mj_t1 1 (by decide +kernel) rfl, mj_t5 11 (by decide +kernel) rfl, by decide +kernel, by decide +kernel, by decide +kernel⟩
theorem yv_X9_slips : mj_yV yX9_slips cX9_slips 5 (some .int) 4 := ⟨⟨mj_t5 23 (by decide +kernel) rfl, mj_t5 24 (by decide +kernel) rfl⟩, mj_t1 1 (by decide +kernel) rfl, mj_t5 25 (by decide +kernel) rfl, by decide +kernel, by decide +kernel, by decide +kernel⟩
theorem yv_X9_undo : mj_yV yX9_undo cX9_undo 1 (some .int) 0 := ⟨⟨mj_t5 32 (by decide +kernel) rfl, mj_t5 33 (by decide +kernel) rfl⟩, mj_t1 1 (by decide +kernel) rfl, mj_t5 34 (by decide +kernel) rfl, by decide +kernel, by decide +kernel, by decide +kernel⟩
theorem yv_X9_redo : mj_yV yX9_redo cX9_redo 1 (some .int) 0 := ⟨⟨mj_t5 44 (by decide +kernel) rfl, mj_t5 45 (by decide +kernel) rfl⟩, mj_t1 1 (by decide +kernel) rfl, mj_t5 46 (by decide +kernel) rfl, by decide +kernel, by decide +kernel, by decide +kernel⟩
theorem yv_X9_body : mj_yV yX9_body cX9_body 2 (some .int) 1 := ⟨⟨mj_t5 56 (by decide +kernel) rfl, mj_t5 57 (by decide +kernel) rfl⟩, mj_t1 1 (by decide +kernel) rfl, mj_t5 58 (by decide +kernel) rfl, by decide +kernel, by decide +kernel, by decide +kernel⟩
theorem yv_X9_act : mj_yV yX9_act cX9_act 4 (some .int) 3 := ⟨⟨mj_t5 72 (by decide +kernel) rfl, mj_t5 73 (by decide +kernel) rfl⟩, mj_t1 1 (by decide +kernel) rfl, mj_t5 74 (by decide +kernel) rfl, by decide +kernel, by decide +kernel, by decide +kernel⟩
theorem yv_X9_trace : mj_yV yX9_trace cX9_trace 2 (some .int) 1 := ⟨⟨mj_t5 111 (by decide +kernel) rfl, mj_t5 112 (by decide +kernel) rfl⟩, mj_t1 1 (by decide +kernel) rfl, mj_t5 113 (by decide +kernel) rfl, by decide +kernel, by decide +kernel, by decide +kernel⟩
theorem yv_X9_keep : mj_yV yX9_keep cX9_keep 3 (some .int) 2 := ⟨⟨mj_t5 119 (by decide +kernel) rfl, mj_t5 120 (by decide +kernel) rfl⟩, mj_t1 1 (by decide +kernel) rfl, mj_t5 121 (by decide +kernel) rfl, by decide +kernel, by decide +kernel, by decide +kernel⟩
theorem yv_X9_row : mj_yV yX9_row cX9_row 4 (some .int) 3 := ⟨⟨mj_t5 128 (by decide +kernel) rfl, mj_t5 129 (by decide +kernel) rfl⟩, mj_t1 1 (by decide +kernel) rfl, mj_t5 130 (by decide +kernel) rfl, by decide +kernel, by decide +kernel, by decide +kernel⟩
theorem yv_X9_put : mj_yV yX9_put cX9_put 6 (some .int) 3 := ⟨⟨mj_t5 140 (by decide +kernel) rfl, mj_t5 141 (by decide +kernel) rfl⟩, mj_t1 1 (by decide +kernel) rfl, mj_t5 142 (by decide +kernel) rfl, by decide +kernel, by decide +kernel, by decide +kernel⟩
theorem yv_X9_element : mj_yV yX9_element cX9_element 3 (some .long) 2 := ⟨⟨mj_t5 159 (by decide +kernel) rfl, mj_t5 160 (by decide +kernel) rfl⟩, mj_t1 1 (by decide +kernel) rfl, mj_t5 161 (by decide +kernel) rfl, by decide +kernel, by decide +kernel, by decide +kernel⟩
theorem yv_X9_shift : mj_yV yX9_shift cX9_shift 6 (some .int) 5 := ⟨⟨mj_t5 164 (by decide +kernel) rfl, mj_t5 165 (by decide +kernel) rfl⟩, mj_t1 1 (by decide +kernel) rfl, mj_t5 166 (by decide +kernel) rfl, by decide +kernel, by decide +kernel, by decide +kernel⟩
theorem yv_X9_taken : mj_yV yX9_taken cX9_taken 4 (some .int) 2 := ⟨⟨mj_t5 177 (by decide +kernel) rfl, mj_t5 178 (by decide +kernel) rfl⟩, mj_t1 1 (by decide +kernel) rfl, mj_t5 179 (by decide +kernel) rfl, by decide +kernel, by decide +kernel, by decide +kernel⟩
theorem yv_X9_count : mj_yV yX9_count cX9_count 2 (some .int) 1 := ⟨⟨mj_t5 189 (by decide +kernel) rfl, mj_t5 190 (by decide +kernel) rfl⟩, mj_t1 1 (by decide +kernel) rfl, mj_t5 191 (by decide +kernel) rfl, by decide +kernel, by decide +kernel, by decide +kernel⟩
theorem ys_X9_within : mj_yS yX9_within cX9_within 3 (some .boolean) 3 := ⟨mj_t2 85 (by decide +kernel) rfl, mj_t1 1 (by decide +kernel) rfl, mj_t2 86 (by decide +kernel) rfl, by decide +kernel, by decide +kernel, by decide +kernel⟩
theorem ys_X9_isMonth : mj_yS yX9_isMonth cX9_isMonth 1 (some .boolean) 1 := ⟨mj_t2 82 (by decide +kernel) rfl, mj_t1 1 (by decide +kernel) rfl, mj_t2 83 (by decide +kernel) rfl, by decide +kernel, by decide +kernel, by decide +kernel⟩
theorem ys_X9_isLate : mj_yS yX9_isLate cX9_isLate 1 (some .boolean) 1 := ⟨mj_t2 88 (by decide +kernel) rfl, mj_t1 1 (by decide +kernel) rfl, mj_t2 89 (by decide +kernel) rfl, by decide +kernel, by decide +kernel, by decide +kernel⟩
theorem ys_X9_isParents : mj_yS yX9_isParents cX9_isParents 1 (some .boolean) 1 := ⟨mj_t2 91 (by decide +kernel) rfl, mj_t1 1 (by decide +kernel) rfl, mj_t2 92 (by decide +kernel) rfl, by decide +kernel, by decide +kernel, by decide +kernel⟩
theorem ys_X9_isSpan : mj_yS yX9_isSpan cX9_isSpan 1 (some .boolean) 1 := ⟨mj_t2 151 (by decide +kernel) rfl, mj_t1 1 (by decide +kernel) rfl, mj_t2 152 (by decide +kernel) rfl, by decide +kernel, by decide +kernel, by decide +kernel⟩
theorem ys_X9_isMark : mj_yS yX9_isMark cX9_isMark 4 (some .boolean) 4 := ⟨mj_t3 115 (by decide +kernel) rfl, mj_t1 1 (by decide +kernel) rfl, mj_t3 116 (by decide +kernel) rfl, by decide +kernel, by decide +kernel, by decide +kernel⟩
theorem yv_X9_isMarkAndChild : mj_yV yX9_isMarkAndChild cX9_isMarkAndChild 2 (some .boolean) 1 := ⟨⟨mj_t4 25 (by decide +kernel) rfl, mj_t0 22 (by decide +kernel) rfl⟩, mj_t1 1 (by decide +kernel) rfl, mj_t4 26 (by decide +kernel) rfl, by decide +kernel, by decide +kernel, by decide +kernel⟩
theorem yv_X9_isMendable : mj_yV yX9_isMendable cX9_isMendable 4 (some .boolean) 3 := ⟨⟨mj_t3 214 (by decide +kernel) rfl, mj_t0 17 (by decide +kernel) rfl⟩, mj_t1 1 (by decide +kernel) rfl, mj_t3 215 (by decide +kernel) rfl, by decide +kernel, by decide +kernel, by decide +kernel⟩
theorem yv_X9_markFromRow : mj_yV yX9_markFromRow cX9_markFromRow 7 (some .boolean) 2 := ⟨⟨mj_t3 144 (by decide +kernel) rfl, mj_t0 15 (by decide +kernel) rfl⟩, mj_t1 1 (by decide +kernel) rfl, mj_t3 145 (by decide +kernel) rfl, by decide +kernel, by decide +kernel, by decide +kernel⟩
theorem yv_X9_refusalAt : mj_yV yX9_refusalAt cX9_refusalAt 3 (some .int) 2 := ⟨⟨mj_t5 145 (by decide +kernel) rfl, mj_t0 35 (by decide +kernel) rfl⟩, mj_t1 1 (by decide +kernel) rfl, mj_t5 146 (by decide +kernel) rfl, by decide +kernel, by decide +kernel, by decide +kernel⟩
theorem ys_X10_within : mj_yS yX10_within cX10_within 6 (some .boolean) 3 := ⟨mj_t6 124 (by decide +kernel) rfl, mj_t1 11 (by decide +kernel) rfl, mj_t6 125 (by decide +kernel) rfl, by decide +kernel, by decide +kernel, by decide +kernel⟩
theorem ys_X10_size : mj_yS yX10_size cX10_size 1 (some .int) 1 := ⟨mj_t7 69 (by decide +kernel) rfl, mj_t1 11 (by decide +kernel) rfl, mj_t7 70 (by decide +kernel) rfl, by decide +kernel, by decide +kernel, by decide +kernel⟩
theorem yv_X10_becomes : mj_yV yX10_becomes cX10_becomes 5 (some .int) 2 := ⟨⟨mj_t7 51 (by decide +kernel) rfl, mj_t0 58 (by decide +kernel) rfl⟩, mj_t1 11 (by decide +kernel) rfl, mj_t7 52 (by decide +kernel) rfl, by decide +kernel, by decide +kernel, by decide +kernel⟩
theorem yv_X10_undo : mj_yV yX10_undo cX10_undo 1 (some .int) 0 := ⟨⟨mj_t6 108 (by decide +kernel) rfl, mj_t6 109 (by decide +kernel) rfl⟩, mj_t1 11 (by decide +kernel) rfl, mj_t6 110 (by decide +kernel) rfl, by decide +kernel, by decide +kernel, by decide +kernel⟩
theorem yv_X10_redo : mj_yV yX10_redo cX10_redo 1 (some .int) 0 := ⟨⟨mj_t6 112 (by decide +kernel) rfl, mj_t6 113 (by decide +kernel) rfl⟩, mj_t1 11 (by decide +kernel) rfl, mj_t6 114 (by decide +kernel) rfl, by decide +kernel, by decide +kernel, by decide +kernel⟩
theorem yv_X10_isChild : mj_yV yX10_isChild cX10_isChild 2 (some .boolean) 1 := ⟨⟨mj_t6 216 (by decide +kernel) rfl, mj_t0 48 (by decide +kernel) rfl⟩, mj_t1 11 (by decide +kernel) rfl, mj_t6 217 (by decide +kernel) rfl, by decide +kernel, by decide +kernel, by decide +kernel⟩
theorem ys_X10_isMonth : mj_yS yX10_isMonth cX10_isMonth 1 (some .boolean) 1 := ⟨mj_t6 120 (by decide +kernel) rfl, mj_t1 11 (by decide +kernel) rfl, mj_t6 121 (by decide +kernel) rfl, by decide +kernel, by decide +kernel, by decide +kernel⟩
theorem ys_X10_isLate : mj_yS yX10_isLate cX10_isLate 1 (some .boolean) 1 := ⟨mj_t6 129 (by decide +kernel) rfl, mj_t1 11 (by decide +kernel) rfl, mj_t6 130 (by decide +kernel) rfl, by decide +kernel, by decide +kernel, by decide +kernel⟩
theorem ys_X10_areParents : mj_yS yX10_areParents cX10_areParents 1 (some .boolean) 1 := ⟨mj_t6 134 (by decide +kernel) rfl, mj_t1 11 (by decide +kernel) rfl, mj_t6 135 (by decide +kernel) rfl, by decide +kernel, by decide +kernel, by decide +kernel⟩
theorem yv_X10_child : mj_yV yX10_child cX10_child 4 (some .int) 3 := ⟨⟨mj_t6 116 (by decide +kernel) rfl, mj_t6 117 (by decide +kernel) rfl⟩, mj_t1 11 (by decide +kernel) rfl, mj_t6 118 (by decide +kernel) rfl, by decide +kernel, by decide +kernel, by decide +kernel⟩
theorem ys_X10_isSpan : mj_yS yX10_isSpan cX10_isSpan 1 (some .boolean) 1 := ⟨mj_t6 143 (by decide +kernel) rfl, mj_t1 11 (by decide +kernel) rfl, mj_t6 144 (by decide +kernel) rfl, by decide +kernel, by decide +kernel, by decide +kernel⟩
theorem yv_X10_want : mj_yV yX10_want cX10_want 3 (some .int) 2 := ⟨⟨mj_t6 139 (by decide +kernel) rfl, mj_t6 140 (by decide +kernel) rfl⟩, mj_t1 11 (by decide +kernel) rfl, mj_t6 141 (by decide +kernel) rfl, by decide +kernel, by decide +kernel, by decide +kernel⟩
theorem yv_X10_tellsWant : mj_yV yX10_tellsWant cX10_tellsWant 3 (none) 2 := ⟨⟨mj_t6 148 (by decide +kernel) rfl, mj_t0 36 (by decide +kernel) rfl⟩, mj_t1 11 (by decide +kernel) rfl, mj_t6 149 (by decide +kernel) rfl, by decide +kernel, by decide +kernel, by decide +kernel⟩
theorem yv_X10_wantOf : mj_yV yX10_wantOf cX10_wantOf 4 (some .int) 1 := ⟨⟨mj_t6 156 (by decide +kernel) rfl, mj_t0 37 (by decide +kernel) rfl⟩, mj_t1 11 (by decide +kernel) rfl, mj_t6 157 (by decide +kernel) rfl, by decide +kernel, by decide +kernel, by decide +kernel⟩
theorem yv_X10_wants : mj_yV yX10_wants cX10_wants 2 (some .int) 1 := ⟨⟨mj_t6 151 (by decide +kernel) rfl, mj_t6 152 (by decide +kernel) rfl⟩, mj_t1 11 (by decide +kernel) rfl, mj_t6 153 (by decide +kernel) rfl, by decide +kernel, by decide +kernel, by decide +kernel⟩
theorem yv_X10_feed : mj_yV yX10_feed cX10_feed 2 (some .int) 1 := ⟨⟨mj_t6 159 (by decide +kernel) rfl, mj_t6 160 (by decide +kernel) rfl⟩, mj_t1 11 (by decide +kernel) rfl, mj_t6 161 (by decide +kernel) rfl, by decide +kernel, by decide +kernel, by decide +kernel⟩
theorem yv_X10_byteAt : mj_yV yX10_byteAt cX10_byteAt 1 (some .int) 0 := ⟨⟨mj_t6 197 (by decide +kernel) rfl, mj_t0 45 (by decide +kernel) rfl⟩, mj_t1 11 (by decide +kernel) rfl, mj_t6 198 (by decide +kernel) rfl, by decide +kernel, by decide +kernel, by decide +kernel⟩
theorem yv_X10_wrong : mj_yV yX10_wrong cX10_wrong 1 (some .int) 0 := ⟨⟨mj_t6 201 (by decide +kernel) rfl, mj_t0 46 (by decide +kernel) rfl⟩, mj_t1 11 (by decide +kernel) rfl, mj_t6 202 (by decide +kernel) rfl, by decide +kernel, by decide +kernel, by decide +kernel⟩
theorem yv_X10_takes : mj_yV yX10_takes cX10_takes 2 (some .boolean) 1 := ⟨⟨mj_t6 205 (by decide +kernel) rfl, mj_t0 47 (by decide +kernel) rfl⟩, mj_t1 11 (by decide +kernel) rfl, mj_t6 206 (by decide +kernel) rfl, by decide +kernel, by decide +kernel, by decide +kernel⟩
theorem yv_X10_either : mj_yV yX10_either cX10_either 3 (some .int) 0 := ⟨⟨mj_t6 173 (by decide +kernel) rfl, mj_t0 39 (by decide +kernel) rfl⟩, mj_t1 11 (by decide +kernel) rfl, mj_t6 174 (by decide +kernel) rfl, by decide +kernel, by decide +kernel, by decide +kernel⟩
theorem yv_X10_both : mj_yV yX10_both cX10_both 3 (some .int) 0 := ⟨⟨mj_t6 177 (by decide +kernel) rfl, mj_t0 40 (by decide +kernel) rfl⟩, mj_t1 11 (by decide +kernel) rfl, mj_t6 178 (by decide +kernel) rfl, by decide +kernel, by decide +kernel, by decide +kernel⟩
theorem yv_X10_compared : mj_yV yX10_compared cX10_compared 4 (some .int) 0 := ⟨⟨mj_t6 181 (by decide +kernel) rfl, mj_t0 41 (by decide +kernel) rfl⟩, mj_t1 11 (by decide +kernel) rfl, mj_t6 182 (by decide +kernel) rfl, by decide +kernel, by decide +kernel, by decide +kernel⟩
theorem yv_X10_sums : mj_yV yX10_sums cX10_sums 4 (some .int) 0 := ⟨⟨mj_t6 185 (by decide +kernel) rfl, mj_t0 42 (by decide +kernel) rfl⟩, mj_t1 11 (by decide +kernel) rfl, mj_t6 186 (by decide +kernel) rfl, by decide +kernel, by decide +kernel, by decide +kernel⟩
theorem yv_X10_product : mj_yV yX10_product cX10_product 4 (some .int) 0 := ⟨⟨mj_t6 189 (by decide +kernel) rfl, mj_t0 43 (by decide +kernel) rfl⟩, mj_t1 11 (by decide +kernel) rfl, mj_t6 190 (by decide +kernel) rfl, by decide +kernel, by decide +kernel, by decide +kernel⟩
theorem ys_X10_nameOf : mj_yS yX10_nameOf cX10_nameOf 1 (some .int) 1 := ⟨mj_t6 208 (by decide +kernel) rfl, mj_t1 11 (by decide +kernel) rfl, mj_t6 209 (by decide +kernel) rfl, by decide +kernel, by decide +kernel, by decide +kernel⟩
theorem yv_X10_one : mj_yV yX10_one cX10_one 5 (some .int) 0 := ⟨⟨mj_t6 193 (by decide +kernel) rfl, mj_t0 44 (by decide +kernel) rfl⟩, mj_t1 11 (by decide +kernel) rfl, mj_t6 194 (by decide +kernel) rfl, by decide +kernel, by decide +kernel, by decide +kernel⟩
theorem yv_X10_workOut : mj_yV yX10_workOut cX10_workOut 8 (some .int) 2 := ⟨⟨mj_t6 169 (by decide +kernel) rfl, mj_t0 38 (by decide +kernel) rfl⟩, mj_t1 11 (by decide +kernel) rfl, mj_t6 170 (by decide +kernel) rfl, by decide +kernel, by decide +kernel, by decide +kernel⟩
theorem yv_X10_law : mj_yV yX10_law cX10_law 4 (some .int) 0 := ⟨⟨mj_t6 164 (by decide +kernel) rfl, mj_t6 165 (by decide +kernel) rfl⟩, mj_t1 11 (by decide +kernel) rfl, mj_t6 166 (by decide +kernel) rfl, by decide +kernel, by decide +kernel, by decide +kernel⟩
theorem yv_X10_growsBy : mj_yV yX10_growsBy cX10_growsBy 9 (some .int) 6 := ⟨⟨mj_t6 232 (by decide +kernel) rfl, mj_t0 52 (by decide +kernel) rfl⟩, mj_t1 11 (by decide +kernel) rfl, mj_t6 233 (by decide +kernel) rfl, by decide +kernel, by decide +kernel, by decide +kernel⟩
theorem yv_X10_growsUp : mj_yV yX10_growsUp cX10_growsUp 7 (none) 4 := ⟨⟨mj_t6 228 (by decide +kernel) rfl, mj_t0 51 (by decide +kernel) rfl⟩, mj_t1 11 (by decide +kernel) rfl, mj_t6 229 (by decide +kernel) rfl, by decide +kernel, by decide +kernel, by decide +kernel⟩
theorem yv_X10_allGrow : mj_yV yX10_allGrow cX10_allGrow 2 (none) 0 := ⟨⟨mj_t6 224 (by decide +kernel) rfl, mj_t0 50 (by decide +kernel) rfl⟩, mj_t1 11 (by decide +kernel) rfl, mj_t6 225 (by decide +kernel) rfl, by decide +kernel, by decide +kernel, by decide +kernel⟩
theorem yv_X10_heightOf : mj_yV yX10_heightOf cX10_heightOf 3 (some .int) 2 := ⟨⟨mj_t6 220 (by decide +kernel) rfl, mj_t0 49 (by decide +kernel) rfl⟩, mj_t1 11 (by decide +kernel) rfl, mj_t6 221 (by decide +kernel) rfl, by decide +kernel, by decide +kernel, by decide +kernel⟩
theorem yv_X10_height : mj_yV yX10_height cX10_height 3 (some .int) 2 := ⟨⟨mj_t6 211 (by decide +kernel) rfl, mj_t6 212 (by decide +kernel) rfl⟩, mj_t1 11 (by decide +kernel) rfl, mj_t6 213 (by decide +kernel) rfl, by decide +kernel, by decide +kernel, by decide +kernel⟩
theorem yv_X10_isMark : mj_yV yX10_isMark cX10_isMark 2 (some .boolean) 1 := ⟨⟨mj_t7 32 (by decide +kernel) rfl, mj_t0 55 (by decide +kernel) rfl⟩, mj_t1 11 (by decide +kernel) rfl, mj_t7 33 (by decide +kernel) rfl, by decide +kernel, by decide +kernel, by decide +kernel⟩
theorem ys_X10_isOne : mj_yS yX10_isOne cX10_isOne 8 (some .boolean) 4 := ⟨mj_t6 239 (by decide +kernel) rfl, mj_t1 11 (by decide +kernel) rfl, mj_t7 0 (by decide +kernel) rfl, by decide +kernel, by decide +kernel, by decide +kernel⟩
theorem yv_X10_adds : mj_yV yX10_adds cX10_adds 5 (none) 4 := ⟨⟨mj_t7 7 (by decide +kernel) rfl, mj_t0 53 (by decide +kernel) rfl⟩, mj_t1 11 (by decide +kernel) rfl, mj_t7 8 (by decide +kernel) rfl, by decide +kernel, by decide +kernel, by decide +kernel⟩
theorem yv_X10_mark : mj_yV yX10_mark cX10_mark 4 (some .int) 3 := ⟨⟨mj_t6 235 (by decide +kernel) rfl, mj_t6 236 (by decide +kernel) rfl⟩, mj_t1 11 (by decide +kernel) rfl, mj_t6 237 (by decide +kernel) rfl, by decide +kernel, by decide +kernel, by decide +kernel⟩
theorem yv_X10_marks : mj_yV yX10_marks cX10_marks 7 (some .int) 3 := ⟨⟨mj_t7 10 (by decide +kernel) rfl, mj_t7 11 (by decide +kernel) rfl⟩, mj_t1 11 (by decide +kernel) rfl, mj_t7 12 (by decide +kernel) rfl, by decide +kernel, by decide +kernel, by decide +kernel⟩
theorem yv_X10_isCovered : mj_yV yX10_isCovered cX10_isCovered 2 (some .boolean) 1 := ⟨⟨mj_t7 24 (by decide +kernel) rfl, mj_t0 54 (by decide +kernel) rfl⟩, mj_t1 11 (by decide +kernel) rfl, mj_t7 25 (by decide +kernel) rfl, by decide +kernel, by decide +kernel, by decide +kernel⟩
theorem yv_X10_paint : mj_yV yX10_paint cX10_paint 4 (some .int) 1 := ⟨⟨mj_t7 19 (by decide +kernel) rfl, mj_t7 20 (by decide +kernel) rfl⟩, mj_t1 11 (by decide +kernel) rfl, mj_t7 21 (by decide +kernel) rfl, by decide +kernel, by decide +kernel, by decide +kernel⟩
theorem yv_X10_ofMark : mj_yV yX10_ofMark cX10_ofMark 3 (some .int) 2 := ⟨⟨mj_t7 36 (by decide +kernel) rfl, mj_t0 56 (by decide +kernel) rfl⟩, mj_t1 11 (by decide +kernel) rfl, mj_t7 37 (by decide +kernel) rfl, by decide +kernel, by decide +kernel, by decide +kernel⟩
theorem yv_X10_ofChild : mj_yV yX10_ofChild cX10_ofChild 3 (some .int) 2 := ⟨⟨mj_t7 43 (by decide +kernel) rfl, mj_t0 57 (by decide +kernel) rfl⟩, mj_t1 11 (by decide +kernel) rfl, mj_t7 44 (by decide +kernel) rfl, by decide +kernel, by decide +kernel, by decide +kernel⟩
theorem yv_X10_of : mj_yV yX10_of cX10_of 3 (some .int) 2 := ⟨⟨mj_t7 27 (by decide +kernel) rfl, mj_t7 28 (by decide +kernel) rfl⟩, mj_t1 11 (by decide +kernel) rfl, mj_t7 29 (by decide +kernel) rfl, by decide +kernel, by decide +kernel, by decide +kernel⟩
theorem yv_X10_mend : mj_yV yX10_mend cX10_mend 4 (some .int) 3 := ⟨⟨mj_t7 46 (by decide +kernel) rfl, mj_t7 47 (by decide +kernel) rfl⟩, mj_t1 11 (by decide +kernel) rfl, mj_t7 48 (by decide +kernel) rfl, by decide +kernel, by decide +kernel, by decide +kernel⟩
theorem ys_X10_byWay : mj_yS yX10_byWay cX10_byWay 2 (some .int) 2 := ⟨mj_t7 66 (by decide +kernel) rfl, mj_t1 11 (by decide +kernel) rfl, mj_t7 67 (by decide +kernel) rfl, by decide +kernel, by decide +kernel, by decide +kernel⟩
theorem yv_X10_offBy : mj_yV yX10_offBy cX10_offBy 5 (some .int) 4 := ⟨⟨mj_t7 63 (by decide +kernel) rfl, mj_t0 60 (by decide +kernel) rfl⟩, mj_t1 11 (by decide +kernel) rfl, mj_t7 64 (by decide +kernel) rfl, by decide +kernel, by decide +kernel, by decide +kernel⟩
theorem yv_X10_offOf : mj_yV yX10_offOf cX10_offOf 4 (some .int) 3 := ⟨⟨mj_t7 86 (by decide +kernel) rfl, mj_t0 63 (by decide +kernel) rfl⟩, mj_t1 11 (by decide +kernel) rfl, mj_t7 87 (by decide +kernel) rfl, by decide +kernel, by decide +kernel, by decide +kernel⟩
theorem yv_X10_isMc : mj_yV yX10_isMc cX10_isMc 2 (some .boolean) 1 := ⟨⟨mj_t7 59 (by decide +kernel) rfl, mj_t0 59 (by decide +kernel) rfl⟩, mj_t1 11 (by decide +kernel) rfl, mj_t7 60 (by decide +kernel) rfl, by decide +kernel, by decide +kernel, by decide +kernel⟩
theorem yv_X10_off : mj_yV yX10_off cX10_off 4 (some .int) 3 := ⟨⟨mj_t7 54 (by decide +kernel) rfl, mj_t7 55 (by decide +kernel) rfl⟩, mj_t1 11 (by decide +kernel) rfl, mj_t7 56 (by decide +kernel) rfl, by decide +kernel, by decide +kernel, by decide +kernel⟩
theorem yv_X10_mayBe : mj_yV yX10_mayBe cX10_mayBe 3 (some .boolean) 2 := ⟨⟨mj_t7 82 (by decide +kernel) rfl, mj_t0 62 (by decide +kernel) rfl⟩, mj_t1 11 (by decide +kernel) rfl, mj_t7 83 (by decide +kernel) rfl, by decide +kernel, by decide +kernel, by decide +kernel⟩
theorem yv_X10_findWhose : mj_yV yX10_findWhose cX10_findWhose 7 (none) 1 := ⟨⟨mj_t7 78 (by decide +kernel) rfl, mj_t0 61 (by decide +kernel) rfl⟩, mj_t1 11 (by decide +kernel) rfl, mj_t7 79 (by decide +kernel) rfl, by decide +kernel, by decide +kernel, by decide +kernel⟩
theorem yv_X10_whose : mj_yV yX10_whose cX10_whose 3 (some .int) 2 := ⟨⟨mj_t7 72 (by decide +kernel) rfl, mj_t7 73 (by decide +kernel) rfl⟩, mj_t1 11 (by decide +kernel) rfl, mj_t7 74 (by decide +kernel) rfl, by decide +kernel, by decide +kernel, by decide +kernel⟩
theorem yv_X10_odds : mj_yV yX10_odds cX10_odds 8 (some .int) 1 := ⟨⟨mj_t7 89 (by decide +kernel) rfl, mj_t7 90 (by decide +kernel) rfl⟩, mj_t1 11 (by decide +kernel) rfl, mj_t7 91 (by decide +kernel) rfl, by decide +kernel, by decide +kernel, by decide +kernel⟩
theorem yv_X10_how : mj_yV yX10_how cX10_how 5 (some .int) 2 := ⟨⟨mj_t7 93 (by decide +kernel) rfl, mj_t7 94 (by decide +kernel) rfl⟩, mj_t1 11 (by decide +kernel) rfl, mj_t7 95 (by decide +kernel) rfl, by decide +kernel, by decide +kernel, by decide +kernel⟩
theorem yv_X10_goesTogether : mj_yV yX10_goesTogether cX10_goesTogether 7 (none) 5 := ⟨⟨mj_t7 102 (by decide +kernel) rfl, mj_t0 64 (by decide +kernel) rfl⟩, mj_t1 11 (by decide +kernel) rfl, mj_t7 103 (by decide +kernel) rfl, by decide +kernel, by decide +kernel, by decide +kernel⟩
theorem yv_X10_together : mj_yV yX10_together cX10_together 5 (some .int) 2 := ⟨⟨mj_t7 97 (by decide +kernel) rfl, mj_t7 98 (by decide +kernel) rfl⟩, mj_t1 11 (by decide +kernel) rfl, mj_t7 99 (by decide +kernel) rfl, by decide +kernel, by decide +kernel, by decide +kernel⟩
theorem yv_X10_isTurned : mj_yV yX10_isTurned cX10_isTurned 3 (some .boolean) 1 := ⟨⟨mj_t7 110 (by decide +kernel) rfl, mj_t0 65 (by decide +kernel) rfl⟩, mj_t1 11 (by decide +kernel) rfl, mj_t7 111 (by decide +kernel) rfl, by decide +kernel, by decide +kernel, by decide +kernel⟩
theorem yv_X10_turned : mj_yV yX10_turned cX10_turned 6 (some .int) 2 := ⟨⟨mj_t7 105 (by decide +kernel) rfl, mj_t7 106 (by decide +kernel) rfl⟩, mj_t1 11 (by decide +kernel) rfl, mj_t7 107 (by decide +kernel) rfl, by decide +kernel, by decide +kernel, by decide +kernel⟩
theorem yv_X10_led : mj_yV yX10_led cX10_led 4 (some .int) 1 := ⟨⟨mj_t7 113 (by decide +kernel) rfl, mj_t7 114 (by decide +kernel) rfl⟩, mj_t1 11 (by decide +kernel) rfl, mj_t7 115 (by decide +kernel) rfl, by decide +kernel, by decide +kernel, by decide +kernel⟩
theorem yv_X10_endOf : mj_yV yX10_endOf cX10_endOf 3 (some .int) 1 := ⟨⟨mj_t7 122 (by decide +kernel) rfl, mj_t0 66 (by decide +kernel) rfl⟩, mj_t1 11 (by decide +kernel) rfl, mj_t7 123 (by decide +kernel) rfl, by decide +kernel, by decide +kernel, by decide +kernel⟩
theorem yv_X10_twiceOf : mj_yV yX10_twiceOf cX10_twiceOf 2 (some .int) 1 := ⟨⟨mj_t7 126 (by decide +kernel) rfl, mj_t0 67 (by decide +kernel) rfl⟩, mj_t1 11 (by decide +kernel) rfl, mj_t7 127 (by decide +kernel) rfl, by decide +kernel, by decide +kernel, by decide +kernel⟩
theorem yv_X10_byParents : mj_yV yX10_byParents cX10_byParents 2 (some .int) 1 := ⟨⟨mj_t7 130 (by decide +kernel) rfl, mj_t0 68 (by decide +kernel) rfl⟩, mj_t1 11 (by decide +kernel) rfl, mj_t7 131 (by decide +kernel) rfl, by decide +kernel, by decide +kernel, by decide +kernel⟩
theorem yv_X10_tall : mj_yV yX10_tall cX10_tall 3 (some .int) 2 := ⟨⟨mj_t7 117 (by decide +kernel) rfl, mj_t7 118 (by decide +kernel) rfl⟩, mj_t1 11 (by decide +kernel) rfl, mj_t7 119 (by decide +kernel) rfl, by decide +kernel, by decide +kernel, by decide +kernel⟩
theorem yv_X10_year : mj_yV yX10_year cX10_year 9 (some .int) 2 := ⟨⟨mj_t7 133 (by decide +kernel) rfl, mj_t7 134 (by decide +kernel) rfl⟩, mj_t1 11 (by decide +kernel) rfl, mj_t7 135 (by decide +kernel) rfl, by decide +kernel, by decide +kernel, by decide +kernel⟩
theorem yv_X10_growsOther : mj_yV yX10_growsOther cX10_growsOther 2 (none) 1 := ⟨⟨mj_t7 143 (by decide +kernel) rfl, mj_t0 69 (by decide +kernel) rfl⟩, mj_t1 11 (by decide +kernel) rfl, mj_t7 144 (by decide +kernel) rfl, by decide +kernel, by decide +kernel, by decide +kernel⟩
theorem yv_X10_lineOf : mj_yV yX10_lineOf cX10_lineOf 3 (some .int) 2 := ⟨⟨mj_t7 147 (by decide +kernel) rfl, mj_t0 70 (by decide +kernel) rfl⟩, mj_t1 11 (by decide +kernel) rfl, mj_t7 148 (by decide +kernel) rfl, by decide +kernel, by decide +kernel, by decide +kernel⟩
theorem yv_X10_line : mj_yV yX10_line cX10_line 3 (some .int) 2 := ⟨⟨mj_t7 138 (by decide +kernel) rfl, mj_t7 139 (by decide +kernel) rfl⟩, mj_t1 11 (by decide +kernel) rfl, mj_t7 140 (by decide +kernel) rfl, by decide +kernel, by decide +kernel, by decide +kernel⟩
theorem yv_X10_falls : mj_yV yX10_falls cX10_falls 5 (some .int) 1 := ⟨⟨mj_t7 150 (by decide +kernel) rfl, mj_t7 151 (by decide +kernel) rfl⟩, mj_t1 11 (by decide +kernel) rfl, mj_t7 152 (by decide +kernel) rfl, by decide +kernel, by decide +kernel, by decide +kernel⟩
theorem yv_X10_overtakes : mj_yV yX10_overtakes cX10_overtakes 6 (some .int) 1 := ⟨⟨mj_t7 154 (by decide +kernel) rfl, mj_t7 155 (by decide +kernel) rfl⟩, mj_t1 11 (by decide +kernel) rfl, mj_t7 156 (by decide +kernel) rfl, by decide +kernel, by decide +kernel, by decide +kernel⟩
theorem yv_X10_enough : mj_yV yX10_enough cX10_enough 6 (some .int) 3 := ⟨⟨mj_t7 158 (by decide +kernel) rfl, mj_t7 159 (by decide +kernel) rfl⟩, mj_t1 11 (by decide +kernel) rfl, mj_t7 160 (by decide +kernel) rfl, by decide +kernel, by decide +kernel, by decide +kernel⟩
theorem yv_X10_nearest : mj_yV yX10_nearest cX10_nearest 7 (some .int) 2 := ⟨⟨mj_t7 169 (by decide +kernel) rfl, mj_t0 71 (by decide +kernel) rfl⟩, mj_t1 11 (by decide +kernel) rfl, mj_t7 170 (by decide +kernel) rfl, by decide +kernel, by decide +kernel, by decide +kernel⟩
theorem yv_X10_slips : mj_yV yX10_slips cX10_slips 9 (some .int) 4 := ⟨⟨mj_t7 162 (by decide +kernel) rfl, mj_t7 163 (by decide +kernel) rfl⟩, mj_t1 11 (by decide +kernel) rfl, mj_t7 164 (by decide +kernel) rfl, by decide +kernel, by decide +kernel, by decide +kernel⟩
theorem yv_X10_isBody : mj_yV yX10_isBody cX10_isBody 2 (some .boolean) 1 := ⟨⟨mj_t7 182 (by decide +kernel) rfl, mj_t0 72 (by decide +kernel) rfl⟩, mj_t1 11 (by decide +kernel) rfl, mj_t7 183 (by decide +kernel) rfl, by decide +kernel, by decide +kernel, by decide +kernel⟩
theorem yv_X10_kindOf : mj_yV yX10_kindOf cX10_kindOf 2 (some .int) 1 := ⟨⟨mj_t8 2 (by decide +kernel) rfl, mj_t0 79 (by decide +kernel) rfl⟩, mj_t1 11 (by decide +kernel) rfl, mj_t8 3 (by decide +kernel) rfl, by decide +kernel, by decide +kernel, by decide +kernel⟩
theorem yv_X10_body : mj_yV yX10_body cX10_body 2 (some .int) 1 := ⟨⟨mj_t7 172 (by decide +kernel) rfl, mj_t7 173 (by decide +kernel) rfl⟩, mj_t1 11 (by decide +kernel) rfl, mj_t7 174 (by decide +kernel) rfl, by decide +kernel, by decide +kernel, by decide +kernel⟩
theorem ys_X10_above : mj_yS yX10_above cX10_above 1 (some .int) 1 := ⟨mj_t8 5 (by decide +kernel) rfl, mj_t1 11 (by decide +kernel) rfl, mj_t8 6 (by decide +kernel) rfl, by decide +kernel, by decide +kernel, by decide +kernel⟩
theorem yv_X10_begins : mj_yV yX10_begins cX10_begins 2 (none) 1 := ⟨⟨mj_t7 190 (by decide +kernel) rfl, mj_t0 74 (by decide +kernel) rfl⟩, mj_t1 11 (by decide +kernel) rfl, mj_t7 191 (by decide +kernel) rfl, by decide +kernel, by decide +kernel, by decide +kernel⟩
theorem yv_X10_growsAs : mj_yV yX10_growsAs cX10_growsAs 3 (some .int) 2 := ⟨⟨mj_t7 186 (by decide +kernel) rfl, mj_t0 73 (by decide +kernel) rfl⟩, mj_t1 11 (by decide +kernel) rfl, mj_t7 187 (by decide +kernel) rfl, by decide +kernel, by decide +kernel, by decide +kernel⟩
theorem yv_X10_standsAs : mj_yV yX10_standsAs cX10_standsAs 4 (some .int) 2 := ⟨⟨mj_t7 194 (by decide +kernel) rfl, mj_t0 75 (by decide +kernel) rfl⟩, mj_t1 11 (by decide +kernel) rfl, mj_t7 195 (by decide +kernel) rfl, by decide +kernel, by decide +kernel, by decide +kernel⟩
theorem yv_X10_marksAs : mj_yV yX10_marksAs cX10_marksAs 4 (some .int) 2 := ⟨⟨mj_t7 198 (by decide +kernel) rfl, mj_t0 76 (by decide +kernel) rfl⟩, mj_t1 11 (by decide +kernel) rfl, mj_t7 199 (by decide +kernel) rfl, by decide +kernel, by decide +kernel, by decide +kernel⟩
theorem yv_X10_tellsAs : mj_yV yX10_tellsAs cX10_tellsAs 4 (some .int) 2 := ⟨⟨mj_t7 202 (by decide +kernel) rfl, mj_t0 77 (by decide +kernel) rfl⟩, mj_t1 11 (by decide +kernel) rfl, mj_t7 203 (by decide +kernel) rfl, by decide +kernel, by decide +kernel, by decide +kernel⟩
theorem yv_X10_act : mj_yV yX10_act cX10_act 4 (some .int) 3 := ⟨⟨mj_t7 177 (by decide +kernel) rfl, mj_t7 178 (by decide +kernel) rfl⟩, mj_t1 11 (by decide +kernel) rfl, mj_t7 179 (by decide +kernel) rfl, by decide +kernel, by decide +kernel, by decide +kernel⟩
theorem yv_X10_trace : mj_yV yX10_trace cX10_trace 2 (some .int) 1 := ⟨⟨mj_t7 205 (by decide +kernel) rfl, mj_t7 206 (by decide +kernel) rfl⟩, mj_t1 11 (by decide +kernel) rfl, mj_t7 207 (by decide +kernel) rfl, by decide +kernel, by decide +kernel, by decide +kernel⟩
theorem ys_X10_isShelf : mj_yS yX10_isShelf cX10_isShelf 1 (some .boolean) 1 := ⟨mj_t7 14 (by decide +kernel) rfl, mj_t1 11 (by decide +kernel) rfl, mj_t7 15 (by decide +kernel) rfl, by decide +kernel, by decide +kernel, by decide +kernel⟩
theorem yv_X10_keep : mj_yV yX10_keep cX10_keep 3 (some .int) 2 := ⟨⟨mj_t7 209 (by decide +kernel) rfl, mj_t7 210 (by decide +kernel) rfl⟩, mj_t1 11 (by decide +kernel) rfl, mj_t7 211 (by decide +kernel) rfl, by decide +kernel, by decide +kernel, by decide +kernel⟩
theorem yv_X10_row : mj_yV yX10_row cX10_row 5 (some .int) 3 := ⟨⟨mj_t7 213 (by decide +kernel) rfl, mj_t7 214 (by decide +kernel) rfl⟩, mj_t1 11 (by decide +kernel) rfl, mj_t7 215 (by decide +kernel) rfl, by decide +kernel, by decide +kernel, by decide +kernel⟩
theorem yv_X10_refusal : mj_yV yX10_refusal cX10_refusal 3 (some .int) 2 := ⟨⟨mj_t7 222 (by decide +kernel) rfl, mj_t0 78 (by decide +kernel) rfl⟩, mj_t1 11 (by decide +kernel) rfl, mj_t7 223 (by decide +kernel) rfl, by decide +kernel, by decide +kernel, by decide +kernel⟩
theorem ys_X10_asSort : mj_yS yX10_asSort cX10_asSort 3 (some .long) 2 := ⟨mj_t7 225 (by decide +kernel) rfl, mj_t1 11 (by decide +kernel) rfl, mj_t7 226 (by decide +kernel) rfl, by decide +kernel, by decide +kernel, by decide +kernel⟩
theorem yv_X10_put : mj_yV yX10_put cX10_put 6 (some .int) 3 := ⟨⟨mj_t7 217 (by decide +kernel) rfl, mj_t7 218 (by decide +kernel) rfl⟩, mj_t1 11 (by decide +kernel) rfl, mj_t7 219 (by decide +kernel) rfl, by decide +kernel, by decide +kernel, by decide +kernel⟩
theorem yv_X10_element : mj_yV yX10_element cX10_element 3 (some .long) 2 := ⟨⟨mj_t7 228 (by decide +kernel) rfl, mj_t7 229 (by decide +kernel) rfl⟩, mj_t1 11 (by decide +kernel) rfl, mj_t7 230 (by decide +kernel) rfl, by decide +kernel, by decide +kernel, by decide +kernel⟩
theorem yv_X10_shift : mj_yV yX10_shift cX10_shift 7 (some .int) 5 := ⟨⟨mj_t7 233 (by decide +kernel) rfl, mj_t7 234 (by decide +kernel) rfl⟩, mj_t1 11 (by decide +kernel) rfl, mj_t7 235 (by decide +kernel) rfl, by decide +kernel, by decide +kernel, by decide +kernel⟩
theorem yv_X10_taken : mj_yV yX10_taken cX10_taken 4 (some .int) 2 := ⟨⟨mj_t7 237 (by decide +kernel) rfl, mj_t7 238 (by decide +kernel) rfl⟩, mj_t1 11 (by decide +kernel) rfl, mj_t7 239 (by decide +kernel) rfl, by decide +kernel, by decide +kernel, by decide +kernel⟩
theorem yv_X10_count : mj_yV yX10_count cX10_count 2 (some .int) 1 := ⟨⟨mj_t8 8 (by decide +kernel) rfl, mj_t8 9 (by decide +kernel) rfl⟩, mj_t1 11 (by decide +kernel) rfl, mj_t8 10 (by decide +kernel) rfl, by decide +kernel, by decide +kernel, by decide +kernel⟩
theorem yv_J0_coder_7d493 : mj_yV yJ0_coder_7d493 cJ0_coder_7d493 1 (some .byte) 0 := ⟨⟨mj_t3 8 (by decide +kernel) rfl, mj_t3 9 (by decide +kernel) rfl⟩, mj_t1 13 (by decide +kernel) rfl, mj_t3 10 (by decide +kernel) rfl, by decide +kernel, by decide +kernel, by decide +kernel⟩
theorem yv_J0_isLatin1_aae02 : mj_yV yJ0_isLatin1_aae02 cJ0_isLatin1_aae02 1 (some .boolean) 0 := ⟨⟨mj_t2 238 (by decide +kernel) rfl, mj_t2 239 (by decide +kernel) rfl⟩, mj_t1 13 (by decide +kernel) rfl, mj_t3 0 (by decide +kernel) rfl, by decide +kernel, by decide +kernel, by decide +kernel⟩
theorem yv_J0_length_8abf5 : mj_yV yJ0_length_8abf5 cJ0_length_8abf5 1 (some .int) 0 := ⟨⟨mj_t3 4 (by decide +kernel) rfl, mj_t3 5 (by decide +kernel) rfl⟩, mj_t1 13 (by decide +kernel) rfl, mj_t3 6 (by decide +kernel) rfl, by decide +kernel, by decide +kernel, by decide +kernel⟩
theorem ys_J1_canEncode_9a6ad : mj_yS yJ1_canEncode_9a6ad cJ1_canEncode_9a6ad 1 (some .boolean) 1 := ⟨mj_t3 15 (by decide +kernel) rfl, mj_t1 14 (by decide +kernel) rfl, mj_t3 16 (by decide +kernel) rfl, by decide +kernel, by decide +kernel, by decide +kernel⟩
theorem ys_J1_indexOfChar_4cfef : mj_yS yJ1_indexOfChar_4cfef cJ1_indexOfChar_4cfef 6 (some .int) 4 := ⟨mj_t3 20 (by decide +kernel) rfl, mj_t1 14 (by decide +kernel) rfl, mj_t3 21 (by decide +kernel) rfl, by decide +kernel, by decide +kernel, by decide +kernel⟩
theorem ys_J1_indexOf_4cfef : mj_yS yJ1_indexOf_4cfef cJ1_indexOf_4cfef 4 (some .int) 4 := ⟨mj_t3 12 (by decide +kernel) rfl, mj_t1 14 (by decide +kernel) rfl, mj_t3 13 (by decide +kernel) rfl, by decide +kernel, by decide +kernel, by decide +kernel⟩
theorem yv_J0_indexOf_7cf53 : mj_yV yJ0_indexOf_7cf53 cJ0_indexOf_7cf53 3 (some .int) 2 := ⟨⟨mj_t2 234 (by decide +kernel) rfl, mj_t2 235 (by decide +kernel) rfl⟩, mj_t1 13 (by decide +kernel) rfl, mj_t2 236 (by decide +kernel) rfl, by decide +kernel, by decide +kernel, by decide +kernel⟩
theorem yv_J0_indexOf_0f7a4 : mj_yV yJ0_indexOf_0f7a4 cJ0_indexOf_0f7a4 2 (some .int) 1 := ⟨⟨mj_t2 230 (by decide +kernel) rfl, mj_t2 231 (by decide +kernel) rfl⟩, mj_t1 13 (by decide +kernel) rfl, mj_t2 232 (by decide +kernel) rfl, by decide +kernel, by decide +kernel, by decide +kernel⟩
theorem mj_callVi {p : Program} {l : Launch} {e : Env} {R : Room} {s : State} {m : MethodId} {args : Array Value} {below : List Frame} {meth : Method} {c : Code} {G : mj_G} {cs sl nL : Nat} {Q : State → Prop} {cc : ByteArray} {own : String} {pc : Nat} {ls : List (Nat × Value)} {σ : mj_S} {idx n maxL d : Nat} {ci o : Nat} {fs : List Value} {q : vw_C} {y : MethodName} {bytes : ByteArray} {ret : Option FieldType} {σ' : mj_S} {As rest st0 : List Value} {v : Int32} (C : mj_X p s m args meth c G cc nL own) (hc : mj_C G l y bytes maxL ret d (.ref (G.2.1 o) :: As) σ (some (.int v)) σ') (hy : mj_yV y bytes maxL ret n) (hl : Cond.methodLink own idx y ∈ mj_TB) (ho : (mj_wd G σ)[o]? = some (G.2.1 o, .inr (ci, fs))) (hq : vwCl[ci]? = some q) (hqy : q.1 = y.cls) (hn : As.length = n) (hst : st0 = As.reverse ++ .ref (G.2.1 o) :: rest) (hW : (rest.map fun v => v.category).sum ≤ 8) (hR : d + 1 ≤ R.frames ∧ 8 + (maxL + 11) + 64 * d ≤ R.locals) (hcs : cs ≤ R.cells ∧ sl ≤ R.slots) (dd : decode cc pc = .ok (.invokevirtual idx, 3)) (k : mj_W p l e R s m args below meth c G cs sl nL Q (pc + 3) ls (.int v :: rest) σ') : mj_W p l e R s m args below meth c G cs sl nL Q pc ls st0 σ := mj_callV C hc hy hl ho hq hqy hn hst hW hR hcs dd k
theorem mj_callTi {p : Program} {l : Launch} {e : Env} {R : Room} {s : State} {m : MethodId} {args : Array Value} {below : List Frame} {meth : Method} {c : Code} {G : mj_G} {cs sl nL : Nat} {Q : State → Prop} {cc : ByteArray} {own : String} {pc : Nat} {ls : List (Nat × Value)} {σ : mj_S} {idx n maxL d : Nat} {y : MethodName} {bytes : ByteArray} {ret : Option FieldType} {σ' : mj_S} {As rest st0 : List Value} {v : Int32} (C : mj_X p s m args meth c G cc nL own) (hc : mj_C G l y bytes maxL ret d (.ref (G.2.1 1002) :: As) σ (some (.int v)) σ') (hy : mj_yV y bytes maxL ret n) (hl : Cond.methodLink own idx y ∈ mj_TB) (hqy : y.cls = "java/lang/String") (hn : As.length = n) (hst : st0 = As.reverse ++ .ref (G.2.1 1002) :: rest) (hW : (rest.map fun v => v.category).sum ≤ 8) (hR : d + 1 ≤ R.frames ∧ 8 + (maxL + 11) + 64 * d ≤ R.locals) (hcs : cs ≤ R.cells ∧ sl ≤ R.slots) (dd : decode cc pc = .ok (.invokevirtual idx, 3)) (k : mj_W p l e R s m args below meth c G cs sl nL Q (pc + 3) ls (.int v :: rest) σ') : mj_W p l e R s m args below meth c G cs sl nL Q pc ls st0 σ := mj_callT C hc hy hl hqy hn hst hW hR hcs dd k
theorem mj_callSi {p : Program} {l : Launch} {e : Env} {R : Room} {s : State} {m : MethodId} {args : Array Value} {below : List Frame} {meth : Method} {c : Code} {G : mj_G} {cs sl nL : Nat} {Q : State → Prop} {cc : ByteArray} {own : String} {pc : Nat} {ls : List (Nat × Value)} {σ : mj_S} {idx n maxL d : Nat} {y : MethodName} {bytes : ByteArray} {ret : Option FieldType} {σ' : mj_S} {As rest st0 : List Value} {v : Int32} (C : mj_X p s m args meth c G cc nL own) (hc : mj_C G l y bytes maxL ret d As σ (some (.int v)) σ') (hy : mj_yS y bytes maxL ret n) (hl : Cond.methodLink own idx y ∈ mj_TB) (hn : As.length = n) (hst : st0 = As.reverse ++ rest) (hW : (rest.map fun v => v.category).sum ≤ 8) (hR : d + 1 ≤ R.frames ∧ 8 + (maxL + 11) + 64 * d ≤ R.locals) (hcs : cs ≤ R.cells ∧ sl ≤ R.slots) (dd : decode cc pc = .ok (.invokestatic idx, 3)) (k : mj_W p l e R s m args below meth c G cs sl nL Q (pc + 3) ls (.int v :: rest) σ') : mj_W p l e R s m args below meth c G cs sl nL Q pc ls st0 σ := mj_callS C hc hy hl hn hst hW hR hcs dd k
theorem mj_callNi {p : Program} {l : Launch} {e : Env} {R : Room} {s : State} {m : MethodId} {args : Array Value} {below : List Frame} {meth : Method} {c : Code} {G : mj_G} {cs sl nL : Nat} {Q : State → Prop} {cc : ByteArray} {own : String} {pc : Nat} {ls : List (Nat × Value)} {σ : mj_S} {idx n maxL d : Nat} {host : String} {y : MethodName} {bytes : ByteArray} {ret : Option FieldType} {σ' : mj_S} {As rest st0 : List Value} {v : Int32} (C : mj_X p s m args meth c G cc nL own) (hc : mj_C G l y bytes maxL ret d As σ (some (.int v)) σ') (hy : mj_yS y bytes maxL ret n) (hl : Cond.methodLinkNest own idx y host ∈ mj_nests) (hn : As.length = n) (hst : st0 = As.reverse ++ rest) (hW : (rest.map fun v => v.category).sum ≤ 8) (hR : d + 1 ≤ R.frames ∧ 8 + (maxL + 11) + 64 * d ≤ R.locals) (hcs : cs ≤ R.cells ∧ sl ≤ R.slots) (dd : decode cc pc = .ok (.invokestatic idx, 3)) (k : mj_W p l e R s m args below meth c G cs sl nL Q (pc + 3) ls (.int v :: rest) σ') : mj_W p l e R s m args below meth c G cs sl nL Q pc ls st0 σ := mj_callN C hc hy hl hn hst hW hR hcs dd k
theorem mj_callVl {p : Program} {l : Launch} {e : Env} {R : Room} {s : State} {m : MethodId} {args : Array Value} {below : List Frame} {meth : Method} {c : Code} {G : mj_G} {cs sl nL : Nat} {Q : State → Prop} {cc : ByteArray} {own : String} {pc : Nat} {ls : List (Nat × Value)} {σ : mj_S} {idx n maxL d : Nat} {ci o : Nat} {fs : List Value} {q : vw_C} {y : MethodName} {bytes : ByteArray} {ret : Option FieldType} {σ' : mj_S} {As rest st0 : List Value} {v : Int64} (C : mj_X p s m args meth c G cc nL own) (hc : mj_C G l y bytes maxL ret d (.ref (G.2.1 o) :: As) σ (some (.long v)) σ') (hy : mj_yV y bytes maxL ret n) (hl : Cond.methodLink own idx y ∈ mj_TB) (ho : (mj_wd G σ)[o]? = some (G.2.1 o, .inr (ci, fs))) (hq : vwCl[ci]? = some q) (hqy : q.1 = y.cls) (hn : As.length = n) (hst : st0 = As.reverse ++ .ref (G.2.1 o) :: rest) (hW : (rest.map fun v => v.category).sum ≤ 8) (hR : d + 1 ≤ R.frames ∧ 8 + (maxL + 11) + 64 * d ≤ R.locals) (hcs : cs ≤ R.cells ∧ sl ≤ R.slots) (dd : decode cc pc = .ok (.invokevirtual idx, 3)) (k : mj_W p l e R s m args below meth c G cs sl nL Q (pc + 3) ls (.long v :: rest) σ') : mj_W p l e R s m args below meth c G cs sl nL Q pc ls st0 σ := mj_callV C hc hy hl ho hq hqy hn hst hW hR hcs dd k
theorem mj_callTl {p : Program} {l : Launch} {e : Env} {R : Room} {s : State} {m : MethodId} {args : Array Value} {below : List Frame} {meth : Method} {c : Code} {G : mj_G} {cs sl nL : Nat} {Q : State → Prop} {cc : ByteArray} {own : String} {pc : Nat} {ls : List (Nat × Value)} {σ : mj_S} {idx n maxL d : Nat} {y : MethodName} {bytes : ByteArray} {ret : Option FieldType} {σ' : mj_S} {As rest st0 : List Value} {v : Int64} (C : mj_X p s m args meth c G cc nL own) (hc : mj_C G l y bytes maxL ret d (.ref (G.2.1 1002) :: As) σ (some (.long v)) σ') (hy : mj_yV y bytes maxL ret n) (hl : Cond.methodLink own idx y ∈ mj_TB) (hqy : y.cls = "java/lang/String") (hn : As.length = n) (hst : st0 = As.reverse ++ .ref (G.2.1 1002) :: rest) (hW : (rest.map fun v => v.category).sum ≤ 8) (hR : d + 1 ≤ R.frames ∧ 8 + (maxL + 11) + 64 * d ≤ R.locals) (hcs : cs ≤ R.cells ∧ sl ≤ R.slots) (dd : decode cc pc = .ok (.invokevirtual idx, 3)) (k : mj_W p l e R s m args below meth c G cs sl nL Q (pc + 3) ls (.long v :: rest) σ') : mj_W p l e R s m args below meth c G cs sl nL Q pc ls st0 σ := mj_callT C hc hy hl hqy hn hst hW hR hcs dd k
theorem mj_callSl {p : Program} {l : Launch} {e : Env} {R : Room} {s : State} {m : MethodId} {args : Array Value} {below : List Frame} {meth : Method} {c : Code} {G : mj_G} {cs sl nL : Nat} {Q : State → Prop} {cc : ByteArray} {own : String} {pc : Nat} {ls : List (Nat × Value)} {σ : mj_S} {idx n maxL d : Nat} {y : MethodName} {bytes : ByteArray} {ret : Option FieldType} {σ' : mj_S} {As rest st0 : List Value} {v : Int64} (C : mj_X p s m args meth c G cc nL own) (hc : mj_C G l y bytes maxL ret d As σ (some (.long v)) σ') (hy : mj_yS y bytes maxL ret n) (hl : Cond.methodLink own idx y ∈ mj_TB) (hn : As.length = n) (hst : st0 = As.reverse ++ rest) (hW : (rest.map fun v => v.category).sum ≤ 8) (hR : d + 1 ≤ R.frames ∧ 8 + (maxL + 11) + 64 * d ≤ R.locals) (hcs : cs ≤ R.cells ∧ sl ≤ R.slots) (dd : decode cc pc = .ok (.invokestatic idx, 3)) (k : mj_W p l e R s m args below meth c G cs sl nL Q (pc + 3) ls (.long v :: rest) σ') : mj_W p l e R s m args below meth c G cs sl nL Q pc ls st0 σ := mj_callS C hc hy hl hn hst hW hR hcs dd k
theorem mj_callNl {p : Program} {l : Launch} {e : Env} {R : Room} {s : State} {m : MethodId} {args : Array Value} {below : List Frame} {meth : Method} {c : Code} {G : mj_G} {cs sl nL : Nat} {Q : State → Prop} {cc : ByteArray} {own : String} {pc : Nat} {ls : List (Nat × Value)} {σ : mj_S} {idx n maxL d : Nat} {host : String} {y : MethodName} {bytes : ByteArray} {ret : Option FieldType} {σ' : mj_S} {As rest st0 : List Value} {v : Int64} (C : mj_X p s m args meth c G cc nL own) (hc : mj_C G l y bytes maxL ret d As σ (some (.long v)) σ') (hy : mj_yS y bytes maxL ret n) (hl : Cond.methodLinkNest own idx y host ∈ mj_nests) (hn : As.length = n) (hst : st0 = As.reverse ++ rest) (hW : (rest.map fun v => v.category).sum ≤ 8) (hR : d + 1 ≤ R.frames ∧ 8 + (maxL + 11) + 64 * d ≤ R.locals) (hcs : cs ≤ R.cells ∧ sl ≤ R.slots) (dd : decode cc pc = .ok (.invokestatic idx, 3)) (k : mj_W p l e R s m args below meth c G cs sl nL Q (pc + 3) ls (.long v :: rest) σ') : mj_W p l e R s m args below meth c G cs sl nL Q pc ls st0 σ := mj_callN C hc hy hl hn hst hW hR hcs dd k
theorem mj_callVv {p : Program} {l : Launch} {e : Env} {R : Room} {s : State} {m : MethodId} {args : Array Value} {below : List Frame} {meth : Method} {c : Code} {G : mj_G} {cs sl nL : Nat} {Q : State → Prop} {cc : ByteArray} {own : String} {pc : Nat} {ls : List (Nat × Value)} {σ : mj_S} {idx n maxL d : Nat} {ci o : Nat} {fs : List Value} {q : vw_C} {y : MethodName} {bytes : ByteArray} {ret : Option FieldType} {σ' : mj_S} {As rest st0 : List Value} (C : mj_X p s m args meth c G cc nL own) (hc : mj_C G l y bytes maxL ret d (.ref (G.2.1 o) :: As) σ none σ') (hy : mj_yV y bytes maxL ret n) (hl : Cond.methodLink own idx y ∈ mj_TB) (ho : (mj_wd G σ)[o]? = some (G.2.1 o, .inr (ci, fs))) (hq : vwCl[ci]? = some q) (hqy : q.1 = y.cls) (hn : As.length = n) (hst : st0 = As.reverse ++ .ref (G.2.1 o) :: rest) (hW : (rest.map fun v => v.category).sum ≤ 8) (hR : d + 1 ≤ R.frames ∧ 8 + (maxL + 11) + 64 * d ≤ R.locals) (hcs : cs ≤ R.cells ∧ sl ≤ R.slots) (dd : decode cc pc = .ok (.invokevirtual idx, 3)) (k : mj_W p l e R s m args below meth c G cs sl nL Q (pc + 3) ls (rest) σ') : mj_W p l e R s m args below meth c G cs sl nL Q pc ls st0 σ := mj_callV C hc hy hl ho hq hqy hn hst hW hR hcs dd k
theorem mj_callTv {p : Program} {l : Launch} {e : Env} {R : Room} {s : State} {m : MethodId} {args : Array Value} {below : List Frame} {meth : Method} {c : Code} {G : mj_G} {cs sl nL : Nat} {Q : State → Prop} {cc : ByteArray} {own : String} {pc : Nat} {ls : List (Nat × Value)} {σ : mj_S} {idx n maxL d : Nat} {y : MethodName} {bytes : ByteArray} {ret : Option FieldType} {σ' : mj_S} {As rest st0 : List Value} (C : mj_X p s m args meth c G cc nL own) (hc : mj_C G l y bytes maxL ret d (.ref (G.2.1 1002) :: As) σ none σ') (hy : mj_yV y bytes maxL ret n) (hl : Cond.methodLink own idx y ∈ mj_TB) (hqy : y.cls = "java/lang/String") (hn : As.length = n) (hst : st0 = As.reverse ++ .ref (G.2.1 1002) :: rest) (hW : (rest.map fun v => v.category).sum ≤ 8) (hR : d + 1 ≤ R.frames ∧ 8 + (maxL + 11) + 64 * d ≤ R.locals) (hcs : cs ≤ R.cells ∧ sl ≤ R.slots) (dd : decode cc pc = .ok (.invokevirtual idx, 3)) (k : mj_W p l e R s m args below meth c G cs sl nL Q (pc + 3) ls (rest) σ') : mj_W p l e R s m args below meth c G cs sl nL Q pc ls st0 σ := mj_callT C hc hy hl hqy hn hst hW hR hcs dd k
theorem mj_callSv {p : Program} {l : Launch} {e : Env} {R : Room} {s : State} {m : MethodId} {args : Array Value} {below : List Frame} {meth : Method} {c : Code} {G : mj_G} {cs sl nL : Nat} {Q : State → Prop} {cc : ByteArray} {own : String} {pc : Nat} {ls : List (Nat × Value)} {σ : mj_S} {idx n maxL d : Nat} {y : MethodName} {bytes : ByteArray} {ret : Option FieldType} {σ' : mj_S} {As rest st0 : List Value} (C : mj_X p s m args meth c G cc nL own) (hc : mj_C G l y bytes maxL ret d As σ none σ') (hy : mj_yS y bytes maxL ret n) (hl : Cond.methodLink own idx y ∈ mj_TB) (hn : As.length = n) (hst : st0 = As.reverse ++ rest) (hW : (rest.map fun v => v.category).sum ≤ 8) (hR : d + 1 ≤ R.frames ∧ 8 + (maxL + 11) + 64 * d ≤ R.locals) (hcs : cs ≤ R.cells ∧ sl ≤ R.slots) (dd : decode cc pc = .ok (.invokestatic idx, 3)) (k : mj_W p l e R s m args below meth c G cs sl nL Q (pc + 3) ls (rest) σ') : mj_W p l e R s m args below meth c G cs sl nL Q pc ls st0 σ := mj_callS C hc hy hl hn hst hW hR hcs dd k
theorem mj_callNv {p : Program} {l : Launch} {e : Env} {R : Room} {s : State} {m : MethodId} {args : Array Value} {below : List Frame} {meth : Method} {c : Code} {G : mj_G} {cs sl nL : Nat} {Q : State → Prop} {cc : ByteArray} {own : String} {pc : Nat} {ls : List (Nat × Value)} {σ : mj_S} {idx n maxL d : Nat} {host : String} {y : MethodName} {bytes : ByteArray} {ret : Option FieldType} {σ' : mj_S} {As rest st0 : List Value} (C : mj_X p s m args meth c G cc nL own) (hc : mj_C G l y bytes maxL ret d As σ none σ') (hy : mj_yS y bytes maxL ret n) (hl : Cond.methodLinkNest own idx y host ∈ mj_nests) (hn : As.length = n) (hst : st0 = As.reverse ++ rest) (hW : (rest.map fun v => v.category).sum ≤ 8) (hR : d + 1 ≤ R.frames ∧ 8 + (maxL + 11) + 64 * d ≤ R.locals) (hcs : cs ≤ R.cells ∧ sl ≤ R.slots) (dd : decode cc pc = .ok (.invokestatic idx, 3)) (k : mj_W p l e R s m args below meth c G cs sl nL Q (pc + 3) ls (rest) σ') : mj_W p l e R s m args below meth c G cs sl nL Q pc ls st0 σ := mj_callN C hc hy hl hn hst hW hR hcs dd k
