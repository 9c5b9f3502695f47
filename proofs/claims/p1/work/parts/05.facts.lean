theorem dfX1 : ∀ j, j < 2 → defaultValue (tyX1 j) = vp_V [.null, .int 0] j
  | 0, _ => rfl
  | 1, _ => rfl
  | n + 2, h => absurd h (by omega)
theorem dfX8 : ∀ j, j < 3 → defaultValue (tyX8 j) = vp_V [.null, .int 0, .int 0] j
  | 0, _ => rfl
  | 1, _ => rfl
  | 2, _ => rfl
  | n + 3, h => absurd h (by omega)
theorem dfX6 : ∀ j, j < 4 → defaultValue (tyX6 j) = vp_V [.null, .null, .int 0, .int 0] j
  | 0, _ => rfl
  | 1, _ => rfl
  | 2, _ => rfl
  | 3, _ => rfl
  | n + 4, h => absurd h (by omega)
theorem dfX9 : ∀ j, j < 8 → defaultValue (tyX9 j) = vp_V [.null, .null, .int 0, .int 0, .int 0, .int 0, .int 0, .long 0] j
  | 0, _ => rfl
  | 1, _ => rfl
  | 2, _ => rfl
  | 3, _ => rfl
  | 4, _ => rfl
  | 5, _ => rfl
  | 6, _ => rfl
  | 7, _ => rfl
  | n + 8, h => absurd h (by omega)
theorem dfX10 : ∀ j, j < 12 → defaultValue (tyX10 j) = vp_V [.null, .null, .null, .null, .null, .null, .null, .int 0, .int 0, .int 0, .int 0, .int 0] j
  | 0, _ => rfl
  | 1, _ => rfl
  | 2, _ => rfl
  | 3, _ => rfl
  | 4, _ => rfl
  | 5, _ => rfl
  | 6, _ => rfl
  | 7, _ => rfl
  | 8, _ => rfl
  | 9, _ => rfl
  | 10, _ => rfl
  | 11, _ => rfl
  | n + 12, h => absurd h (by omega)
theorem vi_0_5 : vp_in 0 5 := by unfold vp_in; decide +kernel
theorem vi_1_5 : vp_in 1 5 := by unfold vp_in; decide +kernel
theorem vi_2_5 : vp_in 2 5 := by unfold vp_in; decide +kernel
theorem vi_3_5 : vp_in 3 5 := by unfold vp_in; decide +kernel
theorem vi_4_5 : vp_in 4 5 := by unfold vp_in; decide +kernel
theorem dfX0 : ∀ j, j < 8 → defaultValue (tyX0 j) = vp_V [.null, .null, .null, .null, .int 0, .int 0, .int 0, .int 0] j
  | 0, _ => rfl
  | 1, _ => rfl
  | 2, _ => rfl
  | 3, _ => rfl
  | 4, _ => rfl
  | 5, _ => rfl
  | 6, _ => rfl
  | 7, _ => rfl
  | n + 8, h => absurd h (by omega)
theorem dfX5 : ∀ j, j < 7 → defaultValue (tyX5 j) = vp_V [.null, .null, .null, .null, .null, .int 0, .int 0] j
  | 0, _ => rfl
  | 1, _ => rfl
  | 2, _ => rfl
  | 3, _ => rfl
  | 4, _ => rfl
  | 5, _ => rfl
  | 6, _ => rfl
  | n + 7, h => absurd h (by omega)
theorem vi_0_41 : vp_in 0 41 := by unfold vp_in; decide +kernel
theorem vi_0_3 : vp_in 0 3 := by unfold vp_in; decide +kernel
theorem vi_1_3 : vp_in 1 3 := by unfold vp_in; decide +kernel
theorem vi_2_3 : vp_in 2 3 := by unfold vp_in; decide +kernel
theorem dfX4 : ∀ j, j < 7 → defaultValue (tyX4 j) = vp_V [.null, .null, .null, .null, .null, .null, .null] j
  | 0, _ => rfl
  | 1, _ => rfl
  | 2, _ => rfl
  | 3, _ => rfl
  | 4, _ => rfl
  | 5, _ => rfl
  | 6, _ => rfl
  | n + 7, h => absurd h (by omega)
theorem dfX2 : ∀ j, j < 1 → defaultValue (tyX2 j) = vp_V [.null] j
  | 0, _ => rfl
  | n + 1, h => absurd h (by omega)
theorem dfX3 : ∀ j, j < 3 → defaultValue (tyX3 j) = vp_V [.null, .null, .null] j
  | 0, _ => rfl
  | 1, _ => rfl
  | 2, _ => rfl
  | n + 3, h => absurd h (by omega)
theorem dfX7 : ∀ j, j < 13 → defaultValue (tyX7 j) = vp_V [.null, .null, .null, .null, .null, .null, .null, .null, .null, .int 0, .int 0, .int 0, .int 0] j
  | 0, _ => rfl
  | 1, _ => rfl
  | 2, _ => rfl
  | 3, _ => rfl
  | 4, _ => rfl
  | 5, _ => rfl
  | 6, _ => rfl
  | 7, _ => rfl
  | 8, _ => rfl
  | 9, _ => rfl
  | 10, _ => rfl
  | 11, _ => rfl
  | 12, _ => rfl
  | n + 13, h => absurd h (by omega)
theorem vi_0_2 : vp_in 0 2 := by unfold vp_in; decide +kernel
theorem vi_0_15 : vp_in 0 15 := by unfold vp_in; decide +kernel
theorem vi_1_15 : vp_in 1 15 := by unfold vp_in; decide +kernel
theorem vi_2_15 : vp_in 2 15 := by unfold vp_in; decide +kernel
theorem vi_3_15 : vp_in 3 15 := by unfold vp_in; decide +kernel
theorem vi_4_15 : vp_in 4 15 := by unfold vp_in; decide +kernel
theorem vi_5_15 : vp_in 5 15 := by unfold vp_in; decide +kernel
theorem vi_6_15 : vp_in 6 15 := by unfold vp_in; decide +kernel
theorem vi_7_15 : vp_in 7 15 := by unfold vp_in; decide +kernel
theorem vi_8_15 : vp_in 8 15 := by unfold vp_in; decide +kernel
theorem vi_9_15 : vp_in 9 15 := by unfold vp_in; decide +kernel
theorem vi_10_15 : vp_in 10 15 := by unfold vp_in; decide +kernel
theorem vi_11_15 : vp_in 11 15 := by unfold vp_in; decide +kernel
theorem vi_12_15 : vp_in 12 15 := by unfold vp_in; decide +kernel
theorem vi_13_15 : vp_in 13 15 := by unfold vp_in; decide +kernel
theorem vi_14_15 : vp_in 14 15 := by unfold vp_in; decide +kernel
theorem vi_0_1600 : vp_in 0 1600 := by unfold vp_in; decide +kernel
theorem vi_1_1600 : vp_in 1 1600 := by unfold vp_in; decide +kernel
theorem vi_2_1600 : vp_in 2 1600 := by unfold vp_in; decide +kernel
theorem vi_3_1600 : vp_in 3 1600 := by unfold vp_in; decide +kernel
theorem vi_4_1600 : vp_in 4 1600 := by unfold vp_in; decide +kernel
theorem vi_5_1600 : vp_in 5 1600 := by unfold vp_in; decide +kernel
theorem vi_6_1600 : vp_in 6 1600 := by unfold vp_in; decide +kernel
theorem vi_7_1600 : vp_in 7 1600 := by unfold vp_in; decide +kernel
theorem vi_8_1600 : vp_in 8 1600 := by unfold vp_in; decide +kernel
theorem vi_9_1600 : vp_in 9 1600 := by unfold vp_in; decide +kernel
theorem vi_10_1600 : vp_in 10 1600 := by unfold vp_in; decide +kernel
theorem vi_11_1600 : vp_in 11 1600 := by unfold vp_in; decide +kernel
theorem vi_12_1600 : vp_in 12 1600 := by unfold vp_in; decide +kernel
theorem vi_13_1600 : vp_in 13 1600 := by unfold vp_in; decide +kernel
theorem vi_14_1600 : vp_in 14 1600 := by unfold vp_in; decide +kernel
theorem vi_15_1600 : vp_in 15 1600 := by unfold vp_in; decide +kernel
theorem vi_16_1600 : vp_in 16 1600 := by unfold vp_in; decide +kernel
theorem vi_17_1600 : vp_in 17 1600 := by unfold vp_in; decide +kernel
theorem vi_18_1600 : vp_in 18 1600 := by unfold vp_in; decide +kernel
theorem vi_19_1600 : vp_in 19 1600 := by unfold vp_in; decide +kernel
theorem nn_1 {x : Int32} (h0 : 0 ≤ x) (h1 : ¬ 20 ≤ x) (h2 : 4 ≤ x) (h3 : 8 ≤ x) (h4 : 12 ≤ x) (h5 : 16 ≤ x) : vp_in x 1620 := by
  simp only [Int32.lt_iff_toInt_lt, Int32.le_iff_toInt_le, ← Int32.toInt_inj, show ((0 : Int32)).toInt = 0 from by decide +kernel, show ((4 : Int32)).toInt = 4 from by decide +kernel, show ((8 : Int32)).toInt = 8 from by decide +kernel, show ((12 : Int32)).toInt = 12 from by decide +kernel, show ((16 : Int32)).toInt = 16 from by decide +kernel, show ((20 : Int32)).toInt = 20 from by decide +kernel] at h0 h1 h2 h3 h4 h5
  rw [vp_in_iff]
  omega
theorem nn_2 {x : Int32} (h0 : 0 ≤ x) (h1 : ¬ 20 ≤ x) (h2 : 4 ≤ x) (h3 : 8 ≤ x) (h4 : 12 ≤ x) (h5 : ¬ 16 ≤ x) : vp_in x 1620 := by
  simp only [Int32.lt_iff_toInt_lt, Int32.le_iff_toInt_le, ← Int32.toInt_inj, show ((0 : Int32)).toInt = 0 from by decide +kernel, show ((4 : Int32)).toInt = 4 from by decide +kernel, show ((8 : Int32)).toInt = 8 from by decide +kernel, show ((12 : Int32)).toInt = 12 from by decide +kernel, show ((16 : Int32)).toInt = 16 from by decide +kernel, show ((20 : Int32)).toInt = 20 from by decide +kernel] at h0 h1 h2 h3 h4 h5
  rw [vp_in_iff]
  omega
theorem nn_3 {x : Int32} (h0 : 0 ≤ x) (h1 : ¬ 20 ≤ x) (h2 : 4 ≤ x) (h3 : 8 ≤ x) (h4 : ¬ 12 ≤ x) : vp_in x 1620 := by
  simp only [Int32.lt_iff_toInt_lt, Int32.le_iff_toInt_le, ← Int32.toInt_inj, show ((0 : Int32)).toInt = 0 from by decide +kernel, show ((4 : Int32)).toInt = 4 from by decide +kernel, show ((8 : Int32)).toInt = 8 from by decide +kernel, show ((12 : Int32)).toInt = 12 from by decide +kernel, show ((20 : Int32)).toInt = 20 from by decide +kernel] at h0 h1 h2 h3 h4
  rw [vp_in_iff]
  omega
theorem nn_4 {x : Int32} (h0 : 0 ≤ x) (h1 : ¬ 20 ≤ x) (h2 : 4 ≤ x) (h3 : ¬ 8 ≤ x) : vp_in x 1620 := by
  simp only [Int32.lt_iff_toInt_lt, Int32.le_iff_toInt_le, ← Int32.toInt_inj, show ((0 : Int32)).toInt = 0 from by decide +kernel, show ((4 : Int32)).toInt = 4 from by decide +kernel, show ((8 : Int32)).toInt = 8 from by decide +kernel, show ((20 : Int32)).toInt = 20 from by decide +kernel] at h0 h1 h2 h3
  rw [vp_in_iff]
  omega
theorem nn_5 {x : Int32} (h0 : 0 ≤ x) (h1 : ¬ 20 ≤ x) (h2 : ¬ 4 ≤ x) : vp_in x 1620 := by
  simp only [Int32.lt_iff_toInt_lt, Int32.le_iff_toInt_le, ← Int32.toInt_inj, show ((0 : Int32)).toInt = 0 from by decide +kernel, show ((4 : Int32)).toInt = 4 from by decide +kernel, show ((20 : Int32)).toInt = 20 from by decide +kernel] at h0 h1 h2
  rw [vp_in_iff]
  omega
theorem nn_6 {x : Int32} (h0 : 0 ≤ x) (h1 : ¬ 81 ≤ x) : vp_in x 81 := by
  simp only [Int32.lt_iff_toInt_lt, Int32.le_iff_toInt_le, ← Int32.toInt_inj, show ((0 : Int32)).toInt = 0 from by decide +kernel, show ((81 : Int32)).toInt = 81 from by decide +kernel] at h0 h1
  rw [vp_in_iff]
  omega
theorem vi_1_2 : vp_in 1 2 := by unfold vp_in; decide +kernel
theorem nn_7 {x : Int32} (h0 : ¬ x < 0) (h1 : ¬ 0 ≤ x) : False := by
  simp only [Int32.lt_iff_toInt_lt, Int32.le_iff_toInt_le, ← Int32.toInt_inj, show ((0 : Int32)).toInt = 0 from by decide +kernel] at h0 h1
  omega
theorem nn_8 {x : Int32} (h0 : ¬ x < 0) (h1 : ¬ (-1) < x) : False := by
  simp only [Int32.lt_iff_toInt_lt, Int32.le_iff_toInt_le, ← Int32.toInt_inj, show (((-1) : Int32)).toInt = (-1) from by decide +kernel, show ((0 : Int32)).toInt = 0 from by decide +kernel] at h0 h1
  omega
theorem nn_9 {x : Int32} (h0 : 0 ≤ x) (h1 : ¬ 169 ≤ x) : vp_in x 169 := by
  simp only [Int32.lt_iff_toInt_lt, Int32.le_iff_toInt_le, ← Int32.toInt_inj, show ((0 : Int32)).toInt = 0 from by decide +kernel, show ((169 : Int32)).toInt = 169 from by decide +kernel] at h0 h1
  rw [vp_in_iff]
  omega
theorem vi_0_169 : vp_in 0 169 := by unfold vp_in; decide +kernel
theorem vi_0_13 : vp_in 0 13 := by unfold vp_in; decide +kernel
theorem nn_10 {x : Int32} (h0 : ¬ x < 0) (h1 : ¬ 4 < x) (h2 : ¬ 0 ≤ x) : False := by
  simp only [Int32.lt_iff_toInt_lt, Int32.le_iff_toInt_le, ← Int32.toInt_inj, show ((0 : Int32)).toInt = 0 from by decide +kernel, show ((4 : Int32)).toInt = 4 from by decide +kernel] at h0 h1 h2
  omega
theorem nn_11 {x : Int32} (h0 : ¬ x < 1) (h1 : ¬ 4 < x) (h2 : ¬ 0 < x) : False := by
  simp only [Int32.lt_iff_toInt_lt, Int32.le_iff_toInt_le, ← Int32.toInt_inj, show ((0 : Int32)).toInt = 0 from by decide +kernel, show ((1 : Int32)).toInt = 1 from by decide +kernel, show ((4 : Int32)).toInt = 4 from by decide +kernel] at h0 h1 h2
  omega
theorem nn_12 {x : Int32} (h0 : 0 ≤ x) (h1 : ¬ 25 ≤ x) : vp_in x 25 := by
  simp only [Int32.lt_iff_toInt_lt, Int32.le_iff_toInt_le, ← Int32.toInt_inj, show ((0 : Int32)).toInt = 0 from by decide +kernel, show ((25 : Int32)).toInt = 25 from by decide +kernel] at h0 h1
  rw [vp_in_iff]
  omega
theorem nn_13 {x : Int32} (h0 : 0 ≤ x) (h1 : ¬ 5 ≤ x) : vp_in x 5 := by
  simp only [Int32.lt_iff_toInt_lt, Int32.le_iff_toInt_le, ← Int32.toInt_inj, show ((0 : Int32)).toInt = 0 from by decide +kernel, show ((5 : Int32)).toInt = 5 from by decide +kernel] at h0 h1
  rw [vp_in_iff]
  omega
theorem nn_14 {x : Int32} (h0 : ¬ x < 0) (h1 : x ≤ 1000) (h2 : ¬ x ≤ 100000) : False := by
  simp only [Int32.lt_iff_toInt_lt, Int32.le_iff_toInt_le, ← Int32.toInt_inj, show ((0 : Int32)).toInt = 0 from by decide +kernel, show ((1000 : Int32)).toInt = 1000 from by decide +kernel, show ((100000 : Int32)).toInt = 100000 from by decide +kernel] at h0 h1 h2
  omega
theorem nn_15 {x : Int32} (h0 : ¬ x < 0) (h1 : ¬ 1000 < x) (h2 : ¬ x ≤ 100000) : False := by
  simp only [Int32.lt_iff_toInt_lt, Int32.le_iff_toInt_le, ← Int32.toInt_inj, show ((0 : Int32)).toInt = 0 from by decide +kernel, show ((1000 : Int32)).toInt = 1000 from by decide +kernel, show ((100000 : Int32)).toInt = 100000 from by decide +kernel] at h0 h1 h2
  omega
theorem vi_0_25 : vp_in 0 25 := by unfold vp_in; decide +kernel
theorem vi_1_25 : vp_in 1 25 := by unfold vp_in; decide +kernel
theorem vi_2_25 : vp_in 2 25 := by unfold vp_in; decide +kernel
theorem vi_3_25 : vp_in 3 25 := by unfold vp_in; decide +kernel
theorem vi_4_25 : vp_in 4 25 := by unfold vp_in; decide +kernel
theorem vi_5_25 : vp_in 5 25 := by unfold vp_in; decide +kernel
theorem vi_6_25 : vp_in 6 25 := by unfold vp_in; decide +kernel
theorem vi_7_25 : vp_in 7 25 := by unfold vp_in; decide +kernel
theorem vi_8_25 : vp_in 8 25 := by unfold vp_in; decide +kernel
theorem vi_9_25 : vp_in 9 25 := by unfold vp_in; decide +kernel
theorem vi_10_25 : vp_in 10 25 := by unfold vp_in; decide +kernel
theorem vi_11_25 : vp_in 11 25 := by unfold vp_in; decide +kernel
theorem vi_12_25 : vp_in 12 25 := by unfold vp_in; decide +kernel
theorem vi_13_25 : vp_in 13 25 := by unfold vp_in; decide +kernel
theorem vi_14_25 : vp_in 14 25 := by unfold vp_in; decide +kernel
theorem vi_15_25 : vp_in 15 25 := by unfold vp_in; decide +kernel
theorem vi_16_25 : vp_in 16 25 := by unfold vp_in; decide +kernel
theorem vi_17_25 : vp_in 17 25 := by unfold vp_in; decide +kernel
theorem vi_18_25 : vp_in 18 25 := by unfold vp_in; decide +kernel
theorem vi_19_25 : vp_in 19 25 := by unfold vp_in; decide +kernel
theorem vi_20_25 : vp_in 20 25 := by unfold vp_in; decide +kernel
theorem vi_21_25 : vp_in 21 25 := by unfold vp_in; decide +kernel
theorem vi_22_25 : vp_in 22 25 := by unfold vp_in; decide +kernel
theorem vi_23_25 : vp_in 23 25 := by unfold vp_in; decide +kernel
theorem vi_24_25 : vp_in 24 25 := by unfold vp_in; decide +kernel
theorem nn_16 {x : Int32} (h0 : ¬ x < 0) (h1 : ¬ 3 ≤ x) : x = 0 ∨ x = 1 ∨ x = 2 := by
  simp only [Int32.lt_iff_toInt_lt, Int32.le_iff_toInt_le, ← Int32.toInt_inj, show ((0 : Int32)).toInt = 0 from by decide +kernel, show ((1 : Int32)).toInt = 1 from by decide +kernel, show ((2 : Int32)).toInt = 2 from by decide +kernel, show ((3 : Int32)).toInt = 3 from by decide +kernel] at h0 h1 ⊢
  omega
theorem nn_17 {x : Int32} (h0 : ¬ x < 0) (h1 : ¬ 2 < x) : x = 0 ∨ x = 1 ∨ x = 2 := by
  simp only [Int32.lt_iff_toInt_lt, Int32.le_iff_toInt_le, ← Int32.toInt_inj, show ((0 : Int32)).toInt = 0 from by decide +kernel, show ((1 : Int32)).toInt = 1 from by decide +kernel, show ((2 : Int32)).toInt = 2 from by decide +kernel] at h0 h1 ⊢
  omega
theorem vi_0_45 : vp_in 0 45 := by unfold vp_in; decide +kernel
theorem vi_1_45 : vp_in 1 45 := by unfold vp_in; decide +kernel
theorem vi_2_45 : vp_in 2 45 := by unfold vp_in; decide +kernel
theorem vi_3_45 : vp_in 3 45 := by unfold vp_in; decide +kernel
theorem vi_4_45 : vp_in 4 45 := by unfold vp_in; decide +kernel
theorem vi_5_45 : vp_in 5 45 := by unfold vp_in; decide +kernel
theorem vi_6_45 : vp_in 6 45 := by unfold vp_in; decide +kernel
theorem vi_7_45 : vp_in 7 45 := by unfold vp_in; decide +kernel
theorem vi_8_45 : vp_in 8 45 := by unfold vp_in; decide +kernel
theorem vi_9_45 : vp_in 9 45 := by unfold vp_in; decide +kernel
theorem vi_10_45 : vp_in 10 45 := by unfold vp_in; decide +kernel
theorem vi_11_45 : vp_in 11 45 := by unfold vp_in; decide +kernel
theorem vi_12_45 : vp_in 12 45 := by unfold vp_in; decide +kernel
theorem vi_13_45 : vp_in 13 45 := by unfold vp_in; decide +kernel
theorem vi_14_45 : vp_in 14 45 := by unfold vp_in; decide +kernel
theorem vi_15_45 : vp_in 15 45 := by unfold vp_in; decide +kernel
theorem vi_16_45 : vp_in 16 45 := by unfold vp_in; decide +kernel
theorem vi_17_45 : vp_in 17 45 := by unfold vp_in; decide +kernel
theorem vi_18_45 : vp_in 18 45 := by unfold vp_in; decide +kernel
theorem vi_19_45 : vp_in 19 45 := by unfold vp_in; decide +kernel
theorem vi_20_45 : vp_in 20 45 := by unfold vp_in; decide +kernel
theorem vi_21_45 : vp_in 21 45 := by unfold vp_in; decide +kernel
theorem vi_22_45 : vp_in 22 45 := by unfold vp_in; decide +kernel
theorem vi_23_45 : vp_in 23 45 := by unfold vp_in; decide +kernel
theorem vi_24_45 : vp_in 24 45 := by unfold vp_in; decide +kernel
theorem vi_25_45 : vp_in 25 45 := by unfold vp_in; decide +kernel
theorem vi_26_45 : vp_in 26 45 := by unfold vp_in; decide +kernel
theorem vi_27_45 : vp_in 27 45 := by unfold vp_in; decide +kernel
theorem vi_28_45 : vp_in 28 45 := by unfold vp_in; decide +kernel
theorem vi_29_45 : vp_in 29 45 := by unfold vp_in; decide +kernel
theorem vi_30_45 : vp_in 30 45 := by unfold vp_in; decide +kernel
theorem vi_31_45 : vp_in 31 45 := by unfold vp_in; decide +kernel
theorem vi_32_45 : vp_in 32 45 := by unfold vp_in; decide +kernel
theorem vi_33_45 : vp_in 33 45 := by unfold vp_in; decide +kernel
theorem vi_34_45 : vp_in 34 45 := by unfold vp_in; decide +kernel
theorem vi_35_45 : vp_in 35 45 := by unfold vp_in; decide +kernel
theorem vi_36_45 : vp_in 36 45 := by unfold vp_in; decide +kernel
theorem vi_37_45 : vp_in 37 45 := by unfold vp_in; decide +kernel
theorem vi_38_45 : vp_in 38 45 := by unfold vp_in; decide +kernel
theorem vi_39_45 : vp_in 39 45 := by unfold vp_in; decide +kernel
theorem vi_40_45 : vp_in 40 45 := by unfold vp_in; decide +kernel
theorem vi_41_45 : vp_in 41 45 := by unfold vp_in; decide +kernel
theorem vi_42_45 : vp_in 42 45 := by unfold vp_in; decide +kernel
theorem vi_43_45 : vp_in 43 45 := by unfold vp_in; decide +kernel
theorem vi_44_45 : vp_in 44 45 := by unfold vp_in; decide +kernel
theorem nn_18 {x : Int32} (h0 : ¬ x < 0) (h1 : ¬ 3 ≤ x) : vp_in x 3 := by
  simp only [Int32.lt_iff_toInt_lt, Int32.le_iff_toInt_le, ← Int32.toInt_inj, show ((0 : Int32)).toInt = 0 from by decide +kernel, show ((3 : Int32)).toInt = 3 from by decide +kernel] at h0 h1
  rw [vp_in_iff]
  omega
theorem nn_19 {x : Int32} (h0 : ¬ x < 0) (h1 : ¬ 2 < x) : vp_in x 3 := by
  simp only [Int32.lt_iff_toInt_lt, Int32.le_iff_toInt_le, ← Int32.toInt_inj, show ((0 : Int32)).toInt = 0 from by decide +kernel, show ((2 : Int32)).toInt = 2 from by decide +kernel] at h0 h1
  rw [vp_in_iff]
  omega
theorem tsw_0_12 (x : Int32) : x = 0 ∨ x = 1 ∨ x = 2 ∨ x = 3 ∨ x = 4 ∨ x = 5 ∨ x = 6 ∨ x = 7 ∨ x = 8 ∨ x = 9 ∨ x = 10 ∨ x = 11 ∨ x = 12 ∨ (x.toInt < 0 ∨ 12 < x.toInt) := by
  by_cases h : x.toInt < 0 ∨ 12 < x.toInt
  · exact Or.inr (Or.inr (Or.inr (Or.inr (Or.inr (Or.inr (Or.inr (Or.inr (Or.inr (Or.inr (Or.inr (Or.inr (Or.inr (h)))))))))))))
  · simp only [← Int32.toInt_inj, show ((0 : Int32)).toInt = 0 from by decide +kernel, show ((1 : Int32)).toInt = 1 from by decide +kernel, show ((2 : Int32)).toInt = 2 from by decide +kernel, show ((3 : Int32)).toInt = 3 from by decide +kernel, show ((4 : Int32)).toInt = 4 from by decide +kernel, show ((5 : Int32)).toInt = 5 from by decide +kernel, show ((6 : Int32)).toInt = 6 from by decide +kernel, show ((7 : Int32)).toInt = 7 from by decide +kernel, show ((8 : Int32)).toInt = 8 from by decide +kernel, show ((9 : Int32)).toInt = 9 from by decide +kernel, show ((10 : Int32)).toInt = 10 from by decide +kernel, show ((11 : Int32)).toInt = 11 from by decide +kernel, show ((12 : Int32)).toInt = 12 from by decide +kernel]
    omega
theorem vi_1_6 : vp_in 1 6 := by unfold vp_in; decide +kernel
theorem vi_2_6 : vp_in 2 6 := by unfold vp_in; decide +kernel
theorem vi_3_6 : vp_in 3 6 := by unfold vp_in; decide +kernel
theorem vi_4_6 : vp_in 4 6 := by unfold vp_in; decide +kernel
theorem vi_5_6 : vp_in 5 6 := by unfold vp_in; decide +kernel
theorem nn_20 {x : Int32} (h0 : x < 0) (h1 : ¬ x < 0) : False := by
  simp only [Int32.lt_iff_toInt_lt, Int32.le_iff_toInt_le, ← Int32.toInt_inj, show ((0 : Int32)).toInt = 0 from by decide +kernel] at h0 h1
  omega
theorem nn_21 {x : Int32} (h0 : ¬ x < 0) (h1 : x ≤ 0) (h2 : x < 0) : False := by
  simp only [Int32.lt_iff_toInt_lt, Int32.le_iff_toInt_le, ← Int32.toInt_inj, show ((0 : Int32)).toInt = 0 from by decide +kernel] at h0 h1 h2
  omega
theorem nn_22 {x : Int32} (h0 : ¬ x < 0) (h1 : x ≤ 0) (h2 : ¬ x < 0) (h3 : ¬ x ≤ 0) : False := by
  simp only [Int32.lt_iff_toInt_lt, Int32.le_iff_toInt_le, ← Int32.toInt_inj, show ((0 : Int32)).toInt = 0 from by decide +kernel] at h0 h1 h2 h3
  omega
theorem nn_23 {x : Int32} (h0 : ¬ x < 0) (h1 : ¬ x ≤ 0) (h2 : x < 0) : False := by
  simp only [Int32.lt_iff_toInt_lt, Int32.le_iff_toInt_le, ← Int32.toInt_inj, show ((0 : Int32)).toInt = 0 from by decide +kernel] at h0 h1 h2
  omega
theorem nn_24 {x : Int32} (h0 : ¬ x < 0) (h1 : ¬ x ≤ 0) (h2 : ¬ x < 0) (h3 : x ≤ 0) : False := by
  simp only [Int32.lt_iff_toInt_lt, Int32.le_iff_toInt_le, ← Int32.toInt_inj, show ((0 : Int32)).toInt = 0 from by decide +kernel] at h0 h1 h2 h3
  omega
theorem nn_25 {x : Int32} (h0 : ¬ x = 0) (h1 : ¬ x = 1) (h2 : ¬ x = 0) (h3 : x = 1) : False := by
  simp only [Int32.lt_iff_toInt_lt, Int32.le_iff_toInt_le, ← Int32.toInt_inj, show ((0 : Int32)).toInt = 0 from by decide +kernel, show ((1 : Int32)).toInt = 1 from by decide +kernel] at h0 h1 h2 h3
  omega
theorem nn_26 {x : Int32} (h0 : ¬ x = 0) (h1 : ¬ x = 1) (h2 : x = 0) : False := by
  simp only [Int32.lt_iff_toInt_lt, Int32.le_iff_toInt_le, ← Int32.toInt_inj, show ((0 : Int32)).toInt = 0 from by decide +kernel, show ((1 : Int32)).toInt = 1 from by decide +kernel] at h0 h1 h2
  omega
theorem nn_27 {x : Int32} (h0 : ¬ x = (-1)) (h1 : x = (-1)) : False := by
  simp only [Int32.lt_iff_toInt_lt, Int32.le_iff_toInt_le, ← Int32.toInt_inj, show (((-1) : Int32)).toInt = (-1) from by decide +kernel] at h0 h1
  omega
theorem nn_28 {x : Int32} (h0 : ¬ x < 0) (h1 : 3 ≤ x) (h2 : x < 0) : False := by
  simp only [Int32.lt_iff_toInt_lt, Int32.le_iff_toInt_le, ← Int32.toInt_inj, show ((0 : Int32)).toInt = 0 from by decide +kernel, show ((3 : Int32)).toInt = 3 from by decide +kernel] at h0 h1 h2
  omega
theorem nn_29 {x : Int32} (h0 : ¬ x < 0) (h1 : 3 ≤ x) (h2 : ¬ x < 0) (h3 : ¬ 2 < x) : False := by
  simp only [Int32.lt_iff_toInt_lt, Int32.le_iff_toInt_le, ← Int32.toInt_inj, show ((0 : Int32)).toInt = 0 from by decide +kernel, show ((2 : Int32)).toInt = 2 from by decide +kernel, show ((3 : Int32)).toInt = 3 from by decide +kernel] at h0 h1 h2 h3
  omega
theorem nn_30 {x : Int32} (h0 : ¬ x < 0) (h1 : ¬ 3 ≤ x) (h2 : x < 0) : False := by
  simp only [Int32.lt_iff_toInt_lt, Int32.le_iff_toInt_le, ← Int32.toInt_inj, show ((0 : Int32)).toInt = 0 from by decide +kernel, show ((3 : Int32)).toInt = 3 from by decide +kernel] at h0 h1 h2
  omega
theorem nn_31 {x : Int32} (h0 : ¬ x < 0) (h1 : ¬ 3 ≤ x) (h2 : ¬ x < 0) (h3 : 2 < x) : False := by
  simp only [Int32.lt_iff_toInt_lt, Int32.le_iff_toInt_le, ← Int32.toInt_inj, show ((0 : Int32)).toInt = 0 from by decide +kernel, show ((2 : Int32)).toInt = 2 from by decide +kernel, show ((3 : Int32)).toInt = 3 from by decide +kernel] at h0 h1 h2 h3
  omega
theorem nn_32 {x : Int32} (h0 : ¬ x < 0) (h1 : x ≤ 12) (h2 : x < 0) : False := by
  simp only [Int32.lt_iff_toInt_lt, Int32.le_iff_toInt_le, ← Int32.toInt_inj, show ((0 : Int32)).toInt = 0 from by decide +kernel, show ((12 : Int32)).toInt = 12 from by decide +kernel] at h0 h1 h2
  omega
theorem nn_33 {x : Int32} (h0 : ¬ x < 0) (h1 : x ≤ 12) (h2 : ¬ x < 0) (h3 : 12 < x) : False := by
  simp only [Int32.lt_iff_toInt_lt, Int32.le_iff_toInt_le, ← Int32.toInt_inj, show ((0 : Int32)).toInt = 0 from by decide +kernel, show ((12 : Int32)).toInt = 12 from by decide +kernel] at h0 h1 h2 h3
  omega
theorem nn_34 {x : Int32} (h0 : ¬ x < 0) (h1 : ¬ x ≤ 12) (h2 : x < 0) : False := by
  simp only [Int32.lt_iff_toInt_lt, Int32.le_iff_toInt_le, ← Int32.toInt_inj, show ((0 : Int32)).toInt = 0 from by decide +kernel, show ((12 : Int32)).toInt = 12 from by decide +kernel] at h0 h1 h2
  omega
theorem nn_35 {x : Int32} (h0 : ¬ x < 0) (h1 : ¬ x ≤ 12) (h2 : ¬ x < 0) (h3 : ¬ 12 < x) : False := by
  simp only [Int32.lt_iff_toInt_lt, Int32.le_iff_toInt_le, ← Int32.toInt_inj, show ((0 : Int32)).toInt = 0 from by decide +kernel, show ((12 : Int32)).toInt = 12 from by decide +kernel] at h0 h1 h2 h3
  omega
theorem nn_36 {x : Int32} (h0 : ¬ x = 0) (h1 : x = 0) : False := by
  simp only [Int32.lt_iff_toInt_lt, Int32.le_iff_toInt_le, ← Int32.toInt_inj, show ((0 : Int32)).toInt = 0 from by decide +kernel] at h0 h1
  omega
theorem nn_37 {x : Int32} (h0 : ¬ x < 0) (h1 : x ≤ 1000) (h2 : x ≤ 100000) (h3 : x < 0) : False := by
  simp only [Int32.lt_iff_toInt_lt, Int32.le_iff_toInt_le, ← Int32.toInt_inj, show ((0 : Int32)).toInt = 0 from by decide +kernel, show ((1000 : Int32)).toInt = 1000 from by decide +kernel, show ((100000 : Int32)).toInt = 100000 from by decide +kernel] at h0 h1 h2 h3
  omega
theorem nn_38 {x : Int32} (h0 : ¬ x < 0) (h1 : x ≤ 1000) (h2 : x ≤ 100000) (h3 : ¬ x < 0) (h4 : 1000 < x) : False := by
  simp only [Int32.lt_iff_toInt_lt, Int32.le_iff_toInt_le, ← Int32.toInt_inj, show ((0 : Int32)).toInt = 0 from by decide +kernel, show ((1000 : Int32)).toInt = 1000 from by decide +kernel, show ((100000 : Int32)).toInt = 100000 from by decide +kernel] at h0 h1 h2 h3 h4
  omega
theorem nn_39 {x : Int32} (h0 : ¬ x < 0) (h1 : ¬ x ≤ 1000) (h2 : x < 0) : False := by
  simp only [Int32.lt_iff_toInt_lt, Int32.le_iff_toInt_le, ← Int32.toInt_inj, show ((0 : Int32)).toInt = 0 from by decide +kernel, show ((1000 : Int32)).toInt = 1000 from by decide +kernel] at h0 h1 h2
  omega
theorem nn_40 {x : Int32} (h0 : ¬ x < 0) (h1 : ¬ x ≤ 1000) (h2 : ¬ x < 0) (h3 : ¬ 1000 < x) : False := by
  simp only [Int32.lt_iff_toInt_lt, Int32.le_iff_toInt_le, ← Int32.toInt_inj, show ((0 : Int32)).toInt = 0 from by decide +kernel, show ((1000 : Int32)).toInt = 1000 from by decide +kernel] at h0 h1 h2 h3
  omega
theorem dfX11 : ∀ j, j < 9 → defaultValue (tyX11 j) = vp_V [.null, .null, .null, .null, .null, .null, .null, .null, .null] j
  | 0, _ => rfl
  | 1, _ => rfl
  | 2, _ => rfl
  | 3, _ => rfl
  | 4, _ => rfl
  | 5, _ => rfl
  | 6, _ => rfl
  | 7, _ => rfl
  | 8, _ => rfl
  | n + 9, h => absurd h (by omega)
theorem dfX12 : ∀ j, j < 74 → defaultValue (tyX12 j) = vp_V [.null, .null, .int 0, .int 0, .int 0, .int 0, .int 0, .int 0, .int 0, .int 0, .long 0, .null, .null, .null, .null, .null, .null, .null, .null, .null, .null, .null, .null, .null, .null, .null, .null, .null, .null, .null, .null, .null, .null, .null, .int 0, .int 0, .int 0, .int 0, .int 0, .int 0, .int 0, .null, .null, .null, .null, .int 0, .int 0, .int 0, .null, .int 0, .int 0, .null, .null, .null, .null, .int 0, .null, .null, .null, .int 0, .null, .null, .null, .null, .null, .null, .null, .null, .null, .int 0, .int 0, .int 0, .null, .null] j
  | 0, _ => rfl
  | 1, _ => rfl
  | 2, _ => rfl
  | 3, _ => rfl
  | 4, _ => rfl
  | 5, _ => rfl
  | 6, _ => rfl
  | 7, _ => rfl
  | 8, _ => rfl
  | 9, _ => rfl
  | 10, _ => rfl
  | 11, _ => rfl
  | 12, _ => rfl
  | 13, _ => rfl
  | 14, _ => rfl
  | 15, _ => rfl
  | 16, _ => rfl
  | 17, _ => rfl
  | 18, _ => rfl
  | 19, _ => rfl
  | 20, _ => rfl
  | 21, _ => rfl
  | 22, _ => rfl
  | 23, _ => rfl
  | 24, _ => rfl
  | 25, _ => rfl
  | 26, _ => rfl
  | 27, _ => rfl
  | 28, _ => rfl
  | 29, _ => rfl
  | 30, _ => rfl
  | 31, _ => rfl
  | 32, _ => rfl
  | 33, _ => rfl
  | 34, _ => rfl
  | 35, _ => rfl
  | 36, _ => rfl
  | 37, _ => rfl
  | 38, _ => rfl
  | 39, _ => rfl
  | 40, _ => rfl
  | 41, _ => rfl
  | 42, _ => rfl
  | 43, _ => rfl
  | 44, _ => rfl
  | 45, _ => rfl
  | 46, _ => rfl
  | 47, _ => rfl
  | 48, _ => rfl
  | 49, _ => rfl
  | 50, _ => rfl
  | 51, _ => rfl
  | 52, _ => rfl
  | 53, _ => rfl
  | 54, _ => rfl
  | 55, _ => rfl
  | 56, _ => rfl
  | 57, _ => rfl
  | 58, _ => rfl
  | 59, _ => rfl
  | 60, _ => rfl
  | 61, _ => rfl
  | 62, _ => rfl
  | 63, _ => rfl
  | 64, _ => rfl
  | 65, _ => rfl
  | 66, _ => rfl
  | 67, _ => rfl
  | 68, _ => rfl
  | 69, _ => rfl
  | 70, _ => rfl
  | 71, _ => rfl
  | 72, _ => rfl
  | 73, _ => rfl
  | n + 74, h => absurd h (by omega)
theorem vi_0_6 : vp_in 0 6 := by unfold vp_in; decide +kernel
theorem tsw_0_47 (x : Int32) : x = 0 ∨ x = 1 ∨ x = 2 ∨ x = 3 ∨ x = 4 ∨ x = 5 ∨ x = 6 ∨ x = 7 ∨ x = 8 ∨ x = 9 ∨ x = 10 ∨ x = 11 ∨ x = 12 ∨ x = 13 ∨ x = 14 ∨ x = 15 ∨ x = 16 ∨ x = 17 ∨ x = 18 ∨ x = 19 ∨ x = 20 ∨ x = 21 ∨ x = 22 ∨ x = 23 ∨ x = 24 ∨ x = 25 ∨ x = 26 ∨ x = 27 ∨ x = 28 ∨ x = 29 ∨ x = 30 ∨ x = 31 ∨ x = 32 ∨ x = 33 ∨ x = 34 ∨ x = 35 ∨ x = 36 ∨ x = 37 ∨ x = 38 ∨ x = 39 ∨ x = 40 ∨ x = 41 ∨ x = 42 ∨ x = 43 ∨ x = 44 ∨ x = 45 ∨ x = 46 ∨ x = 47 ∨ (x.toInt < 0 ∨ 47 < x.toInt) := by
  by_cases h : x.toInt < 0 ∨ 47 < x.toInt
  · exact Or.inr (Or.inr (Or.inr (Or.inr (Or.inr (Or.inr (Or.inr (Or.inr (Or.inr (Or.inr (Or.inr (Or.inr (Or.inr (Or.inr (Or.inr (Or.inr (Or.inr (Or.inr (Or.inr (Or.inr (Or.inr (Or.inr (Or.inr (Or.inr (Or.inr (Or.inr (Or.inr (Or.inr (Or.inr (Or.inr (Or.inr (Or.inr (Or.inr (Or.inr (Or.inr (Or.inr (Or.inr (Or.inr (Or.inr (Or.inr (Or.inr (Or.inr (Or.inr (Or.inr (Or.inr (Or.inr (Or.inr (Or.inr (h))))))))))))))))))))))))))))))))))))))))))))))))
  · simp only [← Int32.toInt_inj, show ((0 : Int32)).toInt = 0 from by decide +kernel, show ((1 : Int32)).toInt = 1 from by decide +kernel, show ((2 : Int32)).toInt = 2 from by decide +kernel, show ((3 : Int32)).toInt = 3 from by decide +kernel, show ((4 : Int32)).toInt = 4 from by decide +kernel, show ((5 : Int32)).toInt = 5 from by decide +kernel, show ((6 : Int32)).toInt = 6 from by decide +kernel, show ((7 : Int32)).toInt = 7 from by decide +kernel, show ((8 : Int32)).toInt = 8 from by decide +kernel, show ((9 : Int32)).toInt = 9 from by decide +kernel, show ((10 : Int32)).toInt = 10 from by decide +kernel, show ((11 : Int32)).toInt = 11 from by decide +kernel, show ((12 : Int32)).toInt = 12 from by decide +kernel, show ((13 : Int32)).toInt = 13 from by decide +kernel, show ((14 : Int32)).toInt = 14 from by decide +kernel, show ((15 : Int32)).toInt = 15 from by decide +kernel, show ((16 : Int32)).toInt = 16 from by decide +kernel, show ((17 : Int32)).toInt = 17 from by decide +kernel, show ((18 : Int32)).toInt = 18 from by decide +kernel, show ((19 : Int32)).toInt = 19 from by decide +kernel, show ((20 : Int32)).toInt = 20 from by decide +kernel, show ((21 : Int32)).toInt = 21 from by decide +kernel, show ((22 : Int32)).toInt = 22 from by decide +kernel, show ((23 : Int32)).toInt = 23 from by decide +kernel, show ((24 : Int32)).toInt = 24 from by decide +kernel, show ((25 : Int32)).toInt = 25 from by decide +kernel, show ((26 : Int32)).toInt = 26 from by decide +kernel, show ((27 : Int32)).toInt = 27 from by decide +kernel, show ((28 : Int32)).toInt = 28 from by decide +kernel, show ((29 : Int32)).toInt = 29 from by decide +kernel, show ((30 : Int32)).toInt = 30 from by decide +kernel, show ((31 : Int32)).toInt = 31 from by decide +kernel, show ((32 : Int32)).toInt = 32 from by decide +kernel, show ((33 : Int32)).toInt = 33 from by decide +kernel, show ((34 : Int32)).toInt = 34 from by decide +kernel, show ((35 : Int32)).toInt = 35 from by decide +kernel, show ((36 : Int32)).toInt = 36 from by decide +kernel, show ((37 : Int32)).toInt = 37 from by decide +kernel, show ((38 : Int32)).toInt = 38 from by decide +kernel, show ((39 : Int32)).toInt = 39 from by decide +kernel, show ((40 : Int32)).toInt = 40 from by decide +kernel, show ((41 : Int32)).toInt = 41 from by decide +kernel, show ((42 : Int32)).toInt = 42 from by decide +kernel, show ((43 : Int32)).toInt = 43 from by decide +kernel, show ((44 : Int32)).toInt = 44 from by decide +kernel, show ((45 : Int32)).toInt = 45 from by decide +kernel, show ((46 : Int32)).toInt = 46 from by decide +kernel, show ((47 : Int32)).toInt = 47 from by decide +kernel]
    omega
