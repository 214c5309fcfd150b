theorem my_0_14 : u_lay RX0 TX0 14 ∈ TB := mB (mT2 (List.mem_of_getElem? (i := 87) (by decide +kernel))) (by decide +kernel)
theorem in0 : ∀ w ∈ u_ws RX0 TX0 15, w ∈ TB := by
  intro w hw
  obtain ⟨k, hk, rfl⟩ := List.mem_map.mp hw
  have hk := List.mem_range.mp hk
  match k, hk with
  | 0, _ => exact my_0_0
  | 1, _ => exact my_0_1
  | 2, _ => exact my_0_2
  | 3, _ => exact my_0_3
  | 4, _ => exact my_0_4
  | 5, _ => exact my_0_5
  | 6, _ => exact my_0_6
  | 7, _ => exact my_0_7
  | 8, _ => exact my_0_8
  | 9, _ => exact my_0_9
  | 10, _ => exact my_0_10
  | 11, _ => exact my_0_11
  | 12, _ => exact my_0_12
  | 13, _ => exact my_0_13
  | 14, _ => exact my_0_14
  | k + 15, h => exact absurd h (by omega)
theorem my_1_0 : u_lay RX1 TX1 0 ∈ TB := mB (mT1 (List.mem_of_getElem? (i := 203) (by decide +kernel))) (by decide +kernel)
theorem my_1_1 : u_lay RX1 TX1 1 ∈ TB := mB (mT1 (List.mem_of_getElem? (i := 205) (by decide +kernel))) (by decide +kernel)
theorem my_1_2 : u_lay RX1 TX1 2 ∈ TB := mB (mT1 (List.mem_of_getElem? (i := 207) (by decide +kernel))) (by decide +kernel)
theorem my_1_3 : u_lay RX1 TX1 3 ∈ TB := mB (mT1 (List.mem_of_getElem? (i := 209) (by decide +kernel))) (by decide +kernel)
theorem my_1_4 : u_lay RX1 TX1 4 ∈ TB := mB (mT1 (List.mem_of_getElem? (i := 211) (by decide +kernel))) (by decide +kernel)
theorem my_1_5 : u_lay RX1 TX1 5 ∈ TB := mB (mT1 (List.mem_of_getElem? (i := 213) (by decide +kernel))) (by decide +kernel)
theorem my_1_6 : u_lay RX1 TX1 6 ∈ TB := mB (mT1 (List.mem_of_getElem? (i := 215) (by decide +kernel))) (by decide +kernel)
theorem my_1_7 : u_lay RX1 TX1 7 ∈ TB := mB (mT1 (List.mem_of_getElem? (i := 217) (by decide +kernel))) (by decide +kernel)
theorem my_1_8 : u_lay RX1 TX1 8 ∈ TB := mB (mT1 (List.mem_of_getElem? (i := 219) (by decide +kernel))) (by decide +kernel)
theorem my_1_9 : u_lay RX1 TX1 9 ∈ TB := mB (mT1 (List.mem_of_getElem? (i := 221) (by decide +kernel))) (by decide +kernel)
theorem my_1_10 : u_lay RX1 TX1 10 ∈ TB := mB (mT1 (List.mem_of_getElem? (i := 223) (by decide +kernel))) (by decide +kernel)
theorem my_1_11 : u_lay RX1 TX1 11 ∈ TB := mB (mT1 (List.mem_of_getElem? (i := 225) (by decide +kernel))) (by decide +kernel)
theorem my_1_12 : u_lay RX1 TX1 12 ∈ TB := mB (mT1 (List.mem_of_getElem? (i := 227) (by decide +kernel))) (by decide +kernel)
theorem my_1_13 : u_lay RX1 TX1 13 ∈ TB := mB (mT1 (List.mem_of_getElem? (i := 229) (by decide +kernel))) (by decide +kernel)
theorem my_1_14 : u_lay RX1 TX1 14 ∈ TB := mB (mT1 (List.mem_of_getElem? (i := 231) (by decide +kernel))) (by decide +kernel)
theorem in1 : ∀ w ∈ u_ws RX1 TX1 15, w ∈ TB := by
  intro w hw
  obtain ⟨k, hk, rfl⟩ := List.mem_map.mp hw
  have hk := List.mem_range.mp hk
  match k, hk with
  | 0, _ => exact my_1_0
  | 1, _ => exact my_1_1
  | 2, _ => exact my_1_2
  | 3, _ => exact my_1_3
  | 4, _ => exact my_1_4
  | 5, _ => exact my_1_5
  | 6, _ => exact my_1_6
  | 7, _ => exact my_1_7
  | 8, _ => exact my_1_8
  | 9, _ => exact my_1_9
  | 10, _ => exact my_1_10
  | 11, _ => exact my_1_11
  | 12, _ => exact my_1_12
  | 13, _ => exact my_1_13
  | 14, _ => exact my_1_14
  | k + 15, h => exact absurd h (by omega)
theorem my_2_0 : u_lay RX2 TX2 0 ∈ TB := mB (mT1 (List.mem_of_getElem? (i := 80) (by decide +kernel))) (by decide +kernel)
theorem my_2_1 : u_lay RX2 TX2 1 ∈ TB := mB (mT1 (List.mem_of_getElem? (i := 82) (by decide +kernel))) (by decide +kernel)
theorem my_2_2 : u_lay RX2 TX2 2 ∈ TB := mB (mT1 (List.mem_of_getElem? (i := 84) (by decide +kernel))) (by decide +kernel)
theorem my_2_3 : u_lay RX2 TX2 3 ∈ TB := mB (mT1 (List.mem_of_getElem? (i := 86) (by decide +kernel))) (by decide +kernel)
theorem my_2_4 : u_lay RX2 TX2 4 ∈ TB := mB (mT1 (List.mem_of_getElem? (i := 88) (by decide +kernel))) (by decide +kernel)
theorem my_2_5 : u_lay RX2 TX2 5 ∈ TB := mB (mT1 (List.mem_of_getElem? (i := 90) (by decide +kernel))) (by decide +kernel)
theorem my_2_6 : u_lay RX2 TX2 6 ∈ TB := mB (mT1 (List.mem_of_getElem? (i := 92) (by decide +kernel))) (by decide +kernel)
theorem my_2_7 : u_lay RX2 TX2 7 ∈ TB := mB (mT1 (List.mem_of_getElem? (i := 94) (by decide +kernel))) (by decide +kernel)
theorem my_2_8 : u_lay RX2 TX2 8 ∈ TB := mB (mT1 (List.mem_of_getElem? (i := 96) (by decide +kernel))) (by decide +kernel)
theorem my_2_9 : u_lay RX2 TX2 9 ∈ TB := mB (mT1 (List.mem_of_getElem? (i := 98) (by decide +kernel))) (by decide +kernel)
theorem my_2_10 : u_lay RX2 TX2 10 ∈ TB := mB (mT1 (List.mem_of_getElem? (i := 100) (by decide +kernel))) (by decide +kernel)
theorem in2 : ∀ w ∈ u_ws RX2 TX2 11, w ∈ TB := by
  intro w hw
  obtain ⟨k, hk, rfl⟩ := List.mem_map.mp hw
  have hk := List.mem_range.mp hk
  match k, hk with
  | 0, _ => exact my_2_0
  | 1, _ => exact my_2_1
  | 2, _ => exact my_2_2
  | 3, _ => exact my_2_3
  | 4, _ => exact my_2_4
  | 5, _ => exact my_2_5
  | 6, _ => exact my_2_6
  | 7, _ => exact my_2_7
  | 8, _ => exact my_2_8
  | 9, _ => exact my_2_9
  | 10, _ => exact my_2_10
  | k + 11, h => exact absurd h (by omega)
theorem my_3_0 : u_lay RX3 TX3 0 ∈ TB := mB (mT1 (List.mem_of_getElem? (i := 165) (by decide +kernel))) (by decide +kernel)
theorem my_3_1 : u_lay RX3 TX3 1 ∈ TB := mB (mT1 (List.mem_of_getElem? (i := 167) (by decide +kernel))) (by decide +kernel)
theorem my_3_2 : u_lay RX3 TX3 2 ∈ TB := mB (mT1 (List.mem_of_getElem? (i := 169) (by decide +kernel))) (by decide +kernel)
theorem my_3_3 : u_lay RX3 TX3 3 ∈ TB := mB (mT1 (List.mem_of_getElem? (i := 171) (by decide +kernel))) (by decide +kernel)
theorem my_3_4 : u_lay RX3 TX3 4 ∈ TB := mB (mT1 (List.mem_of_getElem? (i := 173) (by decide +kernel))) (by decide +kernel)
theorem my_3_5 : u_lay RX3 TX3 5 ∈ TB := mB (mT1 (List.mem_of_getElem? (i := 175) (by decide +kernel))) (by decide +kernel)
theorem in3 : ∀ w ∈ u_ws RX3 TX3 6, w ∈ TB := by
  intro w hw
  obtain ⟨k, hk, rfl⟩ := List.mem_map.mp hw
  have hk := List.mem_range.mp hk
  match k, hk with
  | 0, _ => exact my_3_0
  | 1, _ => exact my_3_1
  | 2, _ => exact my_3_2
  | 3, _ => exact my_3_3
  | 4, _ => exact my_3_4
  | 5, _ => exact my_3_5
  | k + 6, h => exact absurd h (by omega)
theorem my_4_0 : u_lay RX4 TX4 0 ∈ TB := mB (mT1 (List.mem_of_getElem? (i := 147) (by decide +kernel))) (by decide +kernel)
theorem my_4_1 : u_lay RX4 TX4 1 ∈ TB := mB (mT1 (List.mem_of_getElem? (i := 149) (by decide +kernel))) (by decide +kernel)
theorem my_4_2 : u_lay RX4 TX4 2 ∈ TB := mB (mT1 (List.mem_of_getElem? (i := 151) (by decide +kernel))) (by decide +kernel)
theorem my_4_3 : u_lay RX4 TX4 3 ∈ TB := mB (mT1 (List.mem_of_getElem? (i := 153) (by decide +kernel))) (by decide +kernel)
theorem in4 : ∀ w ∈ u_ws RX4 TX4 4, w ∈ TB := by
  intro w hw
  obtain ⟨k, hk, rfl⟩ := List.mem_map.mp hw
  have hk := List.mem_range.mp hk
  match k, hk with
  | 0, _ => exact my_4_0
  | 1, _ => exact my_4_1
  | 2, _ => exact my_4_2
  | 3, _ => exact my_4_3
  | k + 4, h => exact absurd h (by omega)
theorem my_5_0 : u_lay RX5 TX5 0 ∈ TB := mB (mT1 (List.mem_of_getElem? (i := 48) (by decide +kernel))) (by decide +kernel)
theorem my_5_1 : u_lay RX5 TX5 1 ∈ TB := mB (mT1 (List.mem_of_getElem? (i := 50) (by decide +kernel))) (by decide +kernel)
theorem my_5_2 : u_lay RX5 TX5 2 ∈ TB := mB (mT1 (List.mem_of_getElem? (i := 52) (by decide +kernel))) (by decide +kernel)
theorem my_5_3 : u_lay RX5 TX5 3 ∈ TB := mB (mT1 (List.mem_of_getElem? (i := 54) (by decide +kernel))) (by decide +kernel)
theorem my_5_4 : u_lay RX5 TX5 4 ∈ TB := mB (mT1 (List.mem_of_getElem? (i := 56) (by decide +kernel))) (by decide +kernel)
theorem my_5_5 : u_lay RX5 TX5 5 ∈ TB := mB (mT1 (List.mem_of_getElem? (i := 58) (by decide +kernel))) (by decide +kernel)
theorem my_5_6 : u_lay RX5 TX5 6 ∈ TB := mB (mT1 (List.mem_of_getElem? (i := 60) (by decide +kernel))) (by decide +kernel)
theorem in5 : ∀ w ∈ u_ws RX5 TX5 7, w ∈ TB := by
  intro w hw
  obtain ⟨k, hk, rfl⟩ := List.mem_map.mp hw
  have hk := List.mem_range.mp hk
  match k, hk with
  | 0, _ => exact my_5_0
  | 1, _ => exact my_5_1
  | 2, _ => exact my_5_2
  | 3, _ => exact my_5_3
  | 4, _ => exact my_5_4
  | 5, _ => exact my_5_5
  | 6, _ => exact my_5_6
  | k + 7, h => exact absurd h (by omega)
theorem my_6_0 : u_lay RX6 TX6 0 ∈ TB := mB (mT2 (List.mem_of_getElem? (i := 31) (by decide +kernel))) (by decide +kernel)
theorem my_6_1 : u_lay RX6 TX6 1 ∈ TB := mB (mT2 (List.mem_of_getElem? (i := 33) (by decide +kernel))) (by decide +kernel)
theorem my_6_2 : u_lay RX6 TX6 2 ∈ TB := mB (mT2 (List.mem_of_getElem? (i := 35) (by decide +kernel))) (by decide +kernel)
theorem my_6_3 : u_lay RX6 TX6 3 ∈ TB := mB (mT2 (List.mem_of_getElem? (i := 37) (by decide +kernel))) (by decide +kernel)
theorem in6 : ∀ w ∈ u_ws RX6 TX6 4, w ∈ TB := by
  intro w hw
  obtain ⟨k, hk, rfl⟩ := List.mem_map.mp hw
  have hk := List.mem_range.mp hk
  match k, hk with
  | 0, _ => exact my_6_0
  | 1, _ => exact my_6_1
  | 2, _ => exact my_6_2
  | 3, _ => exact my_6_3
  | k + 4, h => exact absurd h (by omega)
theorem my_7_0 : u_lay RX7 TX7 0 ∈ TB := mB (mT2 (List.mem_of_getElem? (i := 10) (by decide +kernel))) (by decide +kernel)
theorem my_7_1 : u_lay RX7 TX7 1 ∈ TB := mB (mT2 (List.mem_of_getElem? (i := 12) (by decide +kernel))) (by decide +kernel)
theorem my_7_2 : u_lay RX7 TX7 2 ∈ TB := mB (mT2 (List.mem_of_getElem? (i := 14) (by decide +kernel))) (by decide +kernel)
theorem my_7_3 : u_lay RX7 TX7 3 ∈ TB := mB (mT2 (List.mem_of_getElem? (i := 16) (by decide +kernel))) (by decide +kernel)
theorem in7 : ∀ w ∈ u_ws RX7 TX7 4, w ∈ TB := by
  intro w hw
  obtain ⟨k, hk, rfl⟩ := List.mem_map.mp hw
  have hk := List.mem_range.mp hk
  match k, hk with
  | 0, _ => exact my_7_0
  | 1, _ => exact my_7_1
  | 2, _ => exact my_7_2
  | 3, _ => exact my_7_3
  | k + 4, h => exact absurd h (by omega)
theorem my_8_0 : u_lay RX8 TX8 0 ∈ TB := mB (mT1 (List.mem_of_getElem? (i := 132) (by decide +kernel))) (by decide +kernel)
theorem my_8_1 : u_lay RX8 TX8 1 ∈ TB := mB (mT1 (List.mem_of_getElem? (i := 134) (by decide +kernel))) (by decide +kernel)
theorem in8 : ∀ w ∈ u_ws RX8 TX8 2, w ∈ TB := by
  intro w hw
  obtain ⟨k, hk, rfl⟩ := List.mem_map.mp hw
  have hk := List.mem_range.mp hk
  match k, hk with
  | 0, _ => exact my_8_0
  | 1, _ => exact my_8_1
  | k + 2, h => exact absurd h (by omega)
theorem my_9_0 : u_lay RX9 TX9 0 ∈ TB := mB (mT2 (List.mem_of_getElem? (i := 94) (by decide +kernel))) (by decide +kernel)
theorem my_9_1 : u_lay RX9 TX9 1 ∈ TB := mB (mT2 (List.mem_of_getElem? (i := 96) (by decide +kernel))) (by decide +kernel)
theorem my_9_2 : u_lay RX9 TX9 2 ∈ TB := mB (mT2 (List.mem_of_getElem? (i := 98) (by decide +kernel))) (by decide +kernel)
theorem my_9_3 : u_lay RX9 TX9 3 ∈ TB := mB (mT2 (List.mem_of_getElem? (i := 100) (by decide +kernel))) (by decide +kernel)
theorem in9 : ∀ w ∈ u_ws RX9 TX9 4, w ∈ TB := by
  intro w hw
  obtain ⟨k, hk, rfl⟩ := List.mem_map.mp hw
  have hk := List.mem_range.mp hk
  match k, hk with
  | 0, _ => exact my_9_0
  | 1, _ => exact my_9_1
  | 2, _ => exact my_9_2
  | 3, _ => exact my_9_3
  | k + 4, h => exact absurd h (by omega)
theorem my_10_0 : u_lay RX10 TX10 0 ∈ TB := mB (mT4 (List.mem_of_getElem? (i := 124) (by decide +kernel))) (by decide +kernel)
theorem my_10_1 : u_lay RX10 TX10 1 ∈ TB := mB (mT4 (List.mem_of_getElem? (i := 126) (by decide +kernel))) (by decide +kernel)
theorem my_10_2 : u_lay RX10 TX10 2 ∈ TB := mB (mT4 (List.mem_of_getElem? (i := 128) (by decide +kernel))) (by decide +kernel)
theorem my_10_3 : u_lay RX10 TX10 3 ∈ TB := mB (mT4 (List.mem_of_getElem? (i := 130) (by decide +kernel))) (by decide +kernel)
theorem my_10_4 : u_lay RX10 TX10 4 ∈ TB := mB (mT4 (List.mem_of_getElem? (i := 132) (by decide +kernel))) (by decide +kernel)
theorem my_10_5 : u_lay RX10 TX10 5 ∈ TB := mB (mT4 (List.mem_of_getElem? (i := 134) (by decide +kernel))) (by decide +kernel)
theorem my_10_6 : u_lay RX10 TX10 6 ∈ TB := mB (mT4 (List.mem_of_getElem? (i := 136) (by decide +kernel))) (by decide +kernel)
theorem my_10_7 : u_lay RX10 TX10 7 ∈ TB := mB (mT4 (List.mem_of_getElem? (i := 138) (by decide +kernel))) (by decide +kernel)
theorem my_10_8 : u_lay RX10 TX10 8 ∈ TB := mB (mT4 (List.mem_of_getElem? (i := 140) (by decide +kernel))) (by decide +kernel)
theorem my_10_9 : u_lay RX10 TX10 9 ∈ TB := mB (mT4 (List.mem_of_getElem? (i := 142) (by decide +kernel))) (by decide +kernel)
theorem my_10_10 : u_lay RX10 TX10 10 ∈ TB := mB (mT4 (List.mem_of_getElem? (i := 144) (by decide +kernel))) (by decide +kernel)
theorem my_10_11 : u_lay RX10 TX10 11 ∈ TB := mB (mT4 (List.mem_of_getElem? (i := 146) (by decide +kernel))) (by decide +kernel)
theorem my_10_12 : u_lay RX10 TX10 12 ∈ TB := mB (mT4 (List.mem_of_getElem? (i := 148) (by decide +kernel))) (by decide +kernel)
theorem my_10_13 : u_lay RX10 TX10 13 ∈ TB := mB (mT4 (List.mem_of_getElem? (i := 150) (by decide +kernel))) (by decide +kernel)
theorem my_10_14 : u_lay RX10 TX10 14 ∈ TB := mB (mT4 (List.mem_of_getElem? (i := 152) (by decide +kernel))) (by decide +kernel)
theorem my_10_15 : u_lay RX10 TX10 15 ∈ TB := mB (mT4 (List.mem_of_getElem? (i := 154) (by decide +kernel))) (by decide +kernel)
theorem my_10_16 : u_lay RX10 TX10 16 ∈ TB := mB (mT4 (List.mem_of_getElem? (i := 156) (by decide +kernel))) (by decide +kernel)
theorem my_10_17 : u_lay RX10 TX10 17 ∈ TB := mB (mT4 (List.mem_of_getElem? (i := 158) (by decide +kernel))) (by decide +kernel)
theorem my_10_18 : u_lay RX10 TX10 18 ∈ TB := mB (mT4 (List.mem_of_getElem? (i := 160) (by decide +kernel))) (by decide +kernel)
theorem my_10_19 : u_lay RX10 TX10 19 ∈ TB := mB (mT4 (List.mem_of_getElem? (i := 162) (by decide +kernel))) (by decide +kernel)
theorem my_10_20 : u_lay RX10 TX10 20 ∈ TB := mB (mT4 (List.mem_of_getElem? (i := 164) (by decide +kernel))) (by decide +kernel)
theorem my_10_21 : u_lay RX10 TX10 21 ∈ TB := mB (mT4 (List.mem_of_getElem? (i := 166) (by decide +kernel))) (by decide +kernel)
theorem my_10_22 : u_lay RX10 TX10 22 ∈ TB := mB (mT4 (List.mem_of_getElem? (i := 168) (by decide +kernel))) (by decide +kernel)
theorem my_10_23 : u_lay RX10 TX10 23 ∈ TB := mB (mT4 (List.mem_of_getElem? (i := 170) (by decide +kernel))) (by decide +kernel)
theorem my_10_24 : u_lay RX10 TX10 24 ∈ TB := mB (mT4 (List.mem_of_getElem? (i := 172) (by decide +kernel))) (by decide +kernel)
theorem my_10_25 : u_lay RX10 TX10 25 ∈ TB := mB (mT4 (List.mem_of_getElem? (i := 174) (by decide +kernel))) (by decide +kernel)
theorem my_10_26 : u_lay RX10 TX10 26 ∈ TB := mB (mT4 (List.mem_of_getElem? (i := 176) (by decide +kernel))) (by decide +kernel)
theorem my_10_27 : u_lay RX10 TX10 27 ∈ TB := mB (mT4 (List.mem_of_getElem? (i := 178) (by decide +kernel))) (by decide +kernel)
theorem my_10_28 : u_lay RX10 TX10 28 ∈ TB := mB (mT4 (List.mem_of_getElem? (i := 180) (by decide +kernel))) (by decide +kernel)
theorem my_10_29 : u_lay RX10 TX10 29 ∈ TB := mB (mT4 (List.mem_of_getElem? (i := 182) (by decide +kernel))) (by decide +kernel)
theorem my_10_30 : u_lay RX10 TX10 30 ∈ TB := mB (mT4 (List.mem_of_getElem? (i := 184) (by decide +kernel))) (by decide +kernel)
theorem my_10_31 : u_lay RX10 TX10 31 ∈ TB := mB (mT4 (List.mem_of_getElem? (i := 186) (by decide +kernel))) (by decide +kernel)
theorem my_10_32 : u_lay RX10 TX10 32 ∈ TB := mB (mT4 (List.mem_of_getElem? (i := 188) (by decide +kernel))) (by decide +kernel)
theorem my_10_33 : u_lay RX10 TX10 33 ∈ TB := mB (mT4 (List.mem_of_getElem? (i := 190) (by decide +kernel))) (by decide +kernel)
theorem my_10_34 : u_lay RX10 TX10 34 ∈ TB := mB (mT4 (List.mem_of_getElem? (i := 192) (by decide +kernel))) (by decide +kernel)
theorem my_10_35 : u_lay RX10 TX10 35 ∈ TB := mB (mT4 (List.mem_of_getElem? (i := 194) (by decide +kernel))) (by decide +kernel)
theorem my_10_36 : u_lay RX10 TX10 36 ∈ TB := mB (mT4 (List.mem_of_getElem? (i := 196) (by decide +kernel))) (by decide +kernel)
theorem my_10_37 : u_lay RX10 TX10 37 ∈ TB := mB (mT4 (List.mem_of_getElem? (i := 198) (by decide +kernel))) (by decide +kernel)
theorem my_10_38 : u_lay RX10 TX10 38 ∈ TB := mB (mT4 (List.mem_of_getElem? (i := 200) (by decide +kernel))) (by decide +kernel)
theorem my_10_39 : u_lay RX10 TX10 39 ∈ TB := mB (mT4 (List.mem_of_getElem? (i := 202) (by decide +kernel))) (by decide +kernel)
theorem my_10_40 : u_lay RX10 TX10 40 ∈ TB := mB (mT4 (List.mem_of_getElem? (i := 204) (by decide +kernel))) (by decide +kernel)
theorem my_10_41 : u_lay RX10 TX10 41 ∈ TB := mB (mT4 (List.mem_of_getElem? (i := 206) (by decide +kernel))) (by decide +kernel)
theorem my_10_42 : u_lay RX10 TX10 42 ∈ TB := mB (mT4 (List.mem_of_getElem? (i := 208) (by decide +kernel))) (by decide +kernel)
theorem my_10_43 : u_lay RX10 TX10 43 ∈ TB := mB (mT4 (List.mem_of_getElem? (i := 210) (by decide +kernel))) (by decide +kernel)
theorem my_10_44 : u_lay RX10 TX10 44 ∈ TB := mB (mT4 (List.mem_of_getElem? (i := 212) (by decide +kernel))) (by decide +kernel)
theorem my_10_45 : u_lay RX10 TX10 45 ∈ TB := mB (mT4 (List.mem_of_getElem? (i := 214) (by decide +kernel))) (by decide +kernel)
theorem my_10_46 : u_lay RX10 TX10 46 ∈ TB := mB (mT4 (List.mem_of_getElem? (i := 216) (by decide +kernel))) (by decide +kernel)
theorem my_10_47 : u_lay RX10 TX10 47 ∈ TB := mB (mT4 (List.mem_of_getElem? (i := 218) (by decide +kernel))) (by decide +kernel)
theorem my_10_48 : u_lay RX10 TX10 48 ∈ TB := mB (mT4 (List.mem_of_getElem? (i := 220) (by decide +kernel))) (by decide +kernel)
theorem my_10_49 : u_lay RX10 TX10 49 ∈ TB := mB (mT4 (List.mem_of_getElem? (i := 222) (by decide +kernel))) (by decide +kernel)
theorem my_10_50 : u_lay RX10 TX10 50 ∈ TB := mB (mT4 (List.mem_of_getElem? (i := 224) (by decide +kernel))) (by decide +kernel)
theorem my_10_51 : u_lay RX10 TX10 51 ∈ TB := mB (mT4 (List.mem_of_getElem? (i := 226) (by decide +kernel))) (by decide +kernel)
theorem my_10_52 : u_lay RX10 TX10 52 ∈ TB := mB (mT4 (List.mem_of_getElem? (i := 228) (by decide +kernel))) (by decide +kernel)
theorem my_10_53 : u_lay RX10 TX10 53 ∈ TB := mB (mT4 (List.mem_of_getElem? (i := 230) (by decide +kernel))) (by decide +kernel)
theorem my_10_54 : u_lay RX10 TX10 54 ∈ TB := mB (mT4 (List.mem_of_getElem? (i := 232) (by decide +kernel))) (by decide +kernel)
theorem my_10_55 : u_lay RX10 TX10 55 ∈ TB := mB (mT4 (List.mem_of_getElem? (i := 234) (by decide +kernel))) (by decide +kernel)
theorem my_10_56 : u_lay RX10 TX10 56 ∈ TB := mB (mT4 (List.mem_of_getElem? (i := 236) (by decide +kernel))) (by decide +kernel)
theorem my_10_57 : u_lay RX10 TX10 57 ∈ TB := mB (mT4 (List.mem_of_getElem? (i := 238) (by decide +kernel))) (by decide +kernel)
theorem my_10_58 : u_lay RX10 TX10 58 ∈ TB := mB (mT5 (List.mem_of_getElem? (i := 0) (by decide +kernel))) (by decide +kernel)
theorem my_10_59 : u_lay RX10 TX10 59 ∈ TB := mB (mT5 (List.mem_of_getElem? (i := 2) (by decide +kernel))) (by decide +kernel)
theorem my_10_60 : u_lay RX10 TX10 60 ∈ TB := mB (mT5 (List.mem_of_getElem? (i := 4) (by decide +kernel))) (by decide +kernel)
theorem my_10_61 : u_lay RX10 TX10 61 ∈ TB := mB (mT5 (List.mem_of_getElem? (i := 6) (by decide +kernel))) (by decide +kernel)
theorem my_10_62 : u_lay RX10 TX10 62 ∈ TB := mB (mT5 (List.mem_of_getElem? (i := 8) (by decide +kernel))) (by decide +kernel)
theorem my_10_63 : u_lay RX10 TX10 63 ∈ TB := mB (mT5 (List.mem_of_getElem? (i := 10) (by decide +kernel))) (by decide +kernel)
theorem in10 : ∀ w ∈ u_ws RX10 TX10 64, w ∈ TB := by
  intro w hw
  obtain ⟨k, hk, rfl⟩ := List.mem_map.mp hw
  have hk := List.mem_range.mp hk
  match k, hk with
  | 0, _ => exact my_10_0
  | 1, _ => exact my_10_1
  | 2, _ => exact my_10_2
  | 3, _ => exact my_10_3
  | 4, _ => exact my_10_4
  | 5, _ => exact my_10_5
  | 6, _ => exact my_10_6
  | 7, _ => exact my_10_7
  | 8, _ => exact my_10_8
  | 9, _ => exact my_10_9
  | 10, _ => exact my_10_10
  | 11, _ => exact my_10_11
  | 12, _ => exact my_10_12
  | 13, _ => exact my_10_13
  | 14, _ => exact my_10_14
  | 15, _ => exact my_10_15
  | 16, _ => exact my_10_16
  | 17, _ => exact my_10_17
  | 18, _ => exact my_10_18
  | 19, _ => exact my_10_19
  | 20, _ => exact my_10_20
  | 21, _ => exact my_10_21
  | 22, _ => exact my_10_22
  | 23, _ => exact my_10_23
  | 24, _ => exact my_10_24
  | 25, _ => exact my_10_25
  | 26, _ => exact my_10_26
  | 27, _ => exact my_10_27
  | 28, _ => exact my_10_28
  | 29, _ => exact my_10_29
  | 30, _ => exact my_10_30
  | 31, _ => exact my_10_31
  | 32, _ => exact my_10_32
  | 33, _ => exact my_10_33
  | 34, _ => exact my_10_34
  | 35, _ => exact my_10_35
  | 36, _ => exact my_10_36
  | 37, _ => exact my_10_37
  | 38, _ => exact my_10_38
  | 39, _ => exact my_10_39
  | 40, _ => exact my_10_40
  | 41, _ => exact my_10_41
  | 42, _ => exact my_10_42
  | 43, _ => exact my_10_43
  | 44, _ => exact my_10_44
  | 45, _ => exact my_10_45
  | 46, _ => exact my_10_46
  | 47, _ => exact my_10_47
  | 48, _ => exact my_10_48
  | 49, _ => exact my_10_49
  | 50, _ => exact my_10_50
  | 51, _ => exact my_10_51
  | 52, _ => exact my_10_52
  | 53, _ => exact my_10_53
  | 54, _ => exact my_10_54
  | 55, _ => exact my_10_55
  | 56, _ => exact my_10_56
  | 57, _ => exact my_10_57
  | 58, _ => exact my_10_58
  | 59, _ => exact my_10_59
  | 60, _ => exact my_10_60
  | 61, _ => exact my_10_61
  | 62, _ => exact my_10_62
  | 63, _ => exact my_10_63
  | k + 64, h => exact absurd h (by omega)
theorem gV {own C : String} {idx maxL : Nat} {y : MethodName} {bytes : ByteArray} {ret : Option FieldType} (h1 : Cond.methodLink own idx y ∈ TB) (h2 : Cond.instanceMethod y ∈ TB) (h3 : Cond.selects C y y ∈ TB) (h4 : Cond.initialized C ∈ TB) (h5 : Cond.code y bytes maxL ret ∈ TB) : GoodIn TB (wsV own idx C y (.code y bytes maxL ret :: TB)) := by
  intro w hw
  have h : w ∈ TB := by
    rcases List.mem_append.mp hw with h | h
    · simp only [List.mem_cons, List.not_mem_nil, or_false] at h
      rcases h with rfl | rfl | rfl | rfl <;> assumption
    · rcases List.mem_cons.mp h with rfl | h <;> assumption
  exact ⟨h, TB_good h⟩
theorem gS {own : String} {idx maxL : Nat} {y : MethodName} {bytes : ByteArray} {ret : Option FieldType} (h1 : Cond.methodLink own idx y ∈ TB) (h2 : Cond.static y ∈ TB) (h4 : Cond.initialized own ∈ TB) (h5 : Cond.code y bytes maxL ret ∈ TB) : GoodIn TB (wsS own idx y (.code y bytes maxL ret :: TB)) := by
  intro w hw
  have h : w ∈ TB := by
    rcases List.mem_append.mp hw with h | h
    · simp only [List.mem_cons, List.not_mem_nil, or_false] at h
      rcases h with rfl | rfl | rfl <;> assumption
    · rcases List.mem_cons.mp h with rfl | h <;> assumption
  exact ⟨h, TB_good h⟩
theorem gI {y : MethodName} {maxL : Nat} {bytes : ByteArray} {ret : Option FieldType} (h5 : Cond.code y bytes maxL ret ∈ TB) : GoodIn TB (.code y bytes maxL ret :: TB) := by
  intro w hw
  have h : w ∈ TB := by rcases List.mem_cons.mp hw with rfl | h <;> assumption
  exact ⟨h, TB_good h⟩
