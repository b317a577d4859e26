noncomputable def pz_T : List ((Nat × Nat) × Nat) := [((1, 0), 2), ((1, 1), 4), ((1, 2), 5), ((1, 3), 12), ((1, 4), 18), ((1, 5), 23), ((1, 6), 36), ((1, 7), 42), ((1, 8), 52), ((1, 9), 58), ((2, 0), 3), ((4, 0), 5), ((4, 1), 12), ((4, 2), 18), ((4, 3), 23), ((4, 4), 29), ((4, 5), 30), ((5, 0), 6), ((5, 1), 7), ((5, 2), 8), ((5, 3), 9), ((5, 4), 10), ((5, 5), 11), ((12, 0), 13), ((12, 1), 14), ((12, 2), 15), ((12, 3), 16), ((12, 4), 17), ((18, 0), 19), ((18, 1), 20), ((18, 2), 21), ((18, 3), 22), ((23, 0), 24), ((23, 1), 25), ((23, 2), 26), ((23, 3), 27), ((23, 4), 28), ((31, 0), 32), ((31, 1), 33), ((31, 2), 34), ((31, 3), 35), ((36, 0), 37), ((36, 1), 38), ((36, 2), 39), ((36, 3), 40), ((36, 4), 41), ((42, 0), 43), ((42, 1), 44), ((42, 2), 45), ((42, 3), 46), ((42, 4), 47), ((42, 5), 48), ((42, 6), 49), ((42, 7), 50), ((42, 8), 51), ((52, 0), 53), ((52, 1), 108), ((52, 2), 109), ((52, 3), 54), ((52, 4), 55), ((52, 5), 56), ((52, 6), 57), ((58, 0), 59), ((58, 1), 60), ((58, 2), 61), ((62, 0), 63), ((62, 1), 64), ((62, 2), 65), ((62, 3), 66), ((67, 1), 68), ((67, 2), 69), ((67, 3), 70), ((67, 4), 71), ((67, 13), 72), ((67, 15), 73), ((67, 16), 74), ((67, 17), 75), ((67, 18), 76), ((67, 19), 77), ((67, 21), 78), ((67, 22), 79), ((67, 23), 80), ((67, 24), 81), ((67, 25), 82), ((67, 26), 83), ((67, 28), 84), ((67, 29), 85), ((67, 30), 86), ((67, 31), 87), ((67, 33), 88), ((67, 34), 89), ((67, 35), 90), ((67, 36), 91), ((67, 37), 92), ((67, 38), 93), ((67, 39), 94), ((67, 40), 95), ((67, 41), 96), ((67, 42), 97), ((67, 43), 98), ((67, 44), 99), ((67, 48), 100), ((67, 49), 101), ((67, 50), 102), ((67, 51), 103), ((67, 52), 104), ((67, 53), 105), ((67, 54), 106), ((67, 55), 107)]
/-- the references: x house.rules, y draft, z tape.rules -/
noncomputable def pz (x y z : Nat) : mj_P := fun k i => if k = 4 ∧ i = 6 then x else if k = 1 ∧ i = 10 then y else if k = 2 ∧ i = 3 then z else (pz_T.lookup (k, i)).getD 0
theorem p_1_0 (x y z : Nat) : pz x y z 1 0 = 2 := rfl
theorem p_1_1 (x y z : Nat) : pz x y z 1 1 = 4 := rfl
theorem p_1_2 (x y z : Nat) : pz x y z 1 2 = 5 := rfl
theorem p_1_3 (x y z : Nat) : pz x y z 1 3 = 12 := rfl
theorem p_1_4 (x y z : Nat) : pz x y z 1 4 = 18 := rfl
theorem p_1_5 (x y z : Nat) : pz x y z 1 5 = 23 := rfl
theorem p_1_6 (x y z : Nat) : pz x y z 1 6 = 36 := rfl
theorem p_1_7 (x y z : Nat) : pz x y z 1 7 = 42 := rfl
theorem p_1_8 (x y z : Nat) : pz x y z 1 8 = 52 := rfl
theorem p_1_9 (x y z : Nat) : pz x y z 1 9 = 58 := rfl
theorem p_2_0 (x y z : Nat) : pz x y z 2 0 = 3 := rfl
theorem p_4_0 (x y z : Nat) : pz x y z 4 0 = 5 := rfl
theorem p_4_1 (x y z : Nat) : pz x y z 4 1 = 12 := rfl
theorem p_4_2 (x y z : Nat) : pz x y z 4 2 = 18 := rfl
theorem p_4_3 (x y z : Nat) : pz x y z 4 3 = 23 := rfl
theorem p_4_4 (x y z : Nat) : pz x y z 4 4 = 29 := rfl
theorem p_4_5 (x y z : Nat) : pz x y z 4 5 = 30 := rfl
theorem p_5_0 (x y z : Nat) : pz x y z 5 0 = 6 := rfl
theorem p_5_1 (x y z : Nat) : pz x y z 5 1 = 7 := rfl
theorem p_5_2 (x y z : Nat) : pz x y z 5 2 = 8 := rfl
theorem p_5_3 (x y z : Nat) : pz x y z 5 3 = 9 := rfl
theorem p_5_4 (x y z : Nat) : pz x y z 5 4 = 10 := rfl
theorem p_5_5 (x y z : Nat) : pz x y z 5 5 = 11 := rfl
theorem p_12_0 (x y z : Nat) : pz x y z 12 0 = 13 := rfl
theorem p_12_1 (x y z : Nat) : pz x y z 12 1 = 14 := rfl
theorem p_12_2 (x y z : Nat) : pz x y z 12 2 = 15 := rfl
theorem p_12_3 (x y z : Nat) : pz x y z 12 3 = 16 := rfl
theorem p_12_4 (x y z : Nat) : pz x y z 12 4 = 17 := rfl
theorem p_18_0 (x y z : Nat) : pz x y z 18 0 = 19 := rfl
theorem p_18_1 (x y z : Nat) : pz x y z 18 1 = 20 := rfl
theorem p_18_2 (x y z : Nat) : pz x y z 18 2 = 21 := rfl
theorem p_18_3 (x y z : Nat) : pz x y z 18 3 = 22 := rfl
theorem p_23_0 (x y z : Nat) : pz x y z 23 0 = 24 := rfl
theorem p_23_1 (x y z : Nat) : pz x y z 23 1 = 25 := rfl
theorem p_23_2 (x y z : Nat) : pz x y z 23 2 = 26 := rfl
theorem p_23_3 (x y z : Nat) : pz x y z 23 3 = 27 := rfl
theorem p_23_4 (x y z : Nat) : pz x y z 23 4 = 28 := rfl
theorem p_31_0 (x y z : Nat) : pz x y z 31 0 = 32 := rfl
theorem p_31_1 (x y z : Nat) : pz x y z 31 1 = 33 := rfl
theorem p_31_2 (x y z : Nat) : pz x y z 31 2 = 34 := rfl
theorem p_31_3 (x y z : Nat) : pz x y z 31 3 = 35 := rfl
theorem p_36_0 (x y z : Nat) : pz x y z 36 0 = 37 := rfl
theorem p_36_1 (x y z : Nat) : pz x y z 36 1 = 38 := rfl
theorem p_36_2 (x y z : Nat) : pz x y z 36 2 = 39 := rfl
theorem p_36_3 (x y z : Nat) : pz x y z 36 3 = 40 := rfl
theorem p_36_4 (x y z : Nat) : pz x y z 36 4 = 41 := rfl
theorem p_42_0 (x y z : Nat) : pz x y z 42 0 = 43 := rfl
theorem p_42_1 (x y z : Nat) : pz x y z 42 1 = 44 := rfl
theorem p_42_2 (x y z : Nat) : pz x y z 42 2 = 45 := rfl
theorem p_42_3 (x y z : Nat) : pz x y z 42 3 = 46 := rfl
theorem p_42_4 (x y z : Nat) : pz x y z 42 4 = 47 := rfl
theorem p_42_5 (x y z : Nat) : pz x y z 42 5 = 48 := rfl
theorem p_42_6 (x y z : Nat) : pz x y z 42 6 = 49 := rfl
theorem p_42_7 (x y z : Nat) : pz x y z 42 7 = 50 := rfl
theorem p_42_8 (x y z : Nat) : pz x y z 42 8 = 51 := rfl
theorem p_52_0 (x y z : Nat) : pz x y z 52 0 = 53 := rfl
theorem p_52_1 (x y z : Nat) : pz x y z 52 1 = 108 := rfl
theorem p_52_2 (x y z : Nat) : pz x y z 52 2 = 109 := rfl
theorem p_52_3 (x y z : Nat) : pz x y z 52 3 = 54 := rfl
theorem p_52_4 (x y z : Nat) : pz x y z 52 4 = 55 := rfl
theorem p_52_5 (x y z : Nat) : pz x y z 52 5 = 56 := rfl
theorem p_52_6 (x y z : Nat) : pz x y z 52 6 = 57 := rfl
theorem p_58_0 (x y z : Nat) : pz x y z 58 0 = 59 := rfl
theorem p_58_1 (x y z : Nat) : pz x y z 58 1 = 60 := rfl
theorem p_58_2 (x y z : Nat) : pz x y z 58 2 = 61 := rfl
theorem p_62_0 (x y z : Nat) : pz x y z 62 0 = 63 := rfl
theorem p_62_1 (x y z : Nat) : pz x y z 62 1 = 64 := rfl
theorem p_62_2 (x y z : Nat) : pz x y z 62 2 = 65 := rfl
theorem p_62_3 (x y z : Nat) : pz x y z 62 3 = 66 := rfl
theorem p_67_1 (x y z : Nat) : pz x y z 67 1 = 68 := rfl
theorem p_67_2 (x y z : Nat) : pz x y z 67 2 = 69 := rfl
theorem p_67_3 (x y z : Nat) : pz x y z 67 3 = 70 := rfl
theorem p_67_4 (x y z : Nat) : pz x y z 67 4 = 71 := rfl
theorem p_67_13 (x y z : Nat) : pz x y z 67 13 = 72 := rfl
theorem p_67_15 (x y z : Nat) : pz x y z 67 15 = 73 := rfl
theorem p_67_16 (x y z : Nat) : pz x y z 67 16 = 74 := rfl
theorem p_67_17 (x y z : Nat) : pz x y z 67 17 = 75 := rfl
theorem p_67_18 (x y z : Nat) : pz x y z 67 18 = 76 := rfl
theorem p_67_19 (x y z : Nat) : pz x y z 67 19 = 77 := rfl
theorem p_67_21 (x y z : Nat) : pz x y z 67 21 = 78 := rfl
theorem p_67_22 (x y z : Nat) : pz x y z 67 22 = 79 := rfl
theorem p_67_23 (x y z : Nat) : pz x y z 67 23 = 80 := rfl
theorem p_67_24 (x y z : Nat) : pz x y z 67 24 = 81 := rfl
theorem p_67_25 (x y z : Nat) : pz x y z 67 25 = 82 := rfl
theorem p_67_26 (x y z : Nat) : pz x y z 67 26 = 83 := rfl
theorem p_67_28 (x y z : Nat) : pz x y z 67 28 = 84 := rfl
theorem p_67_29 (x y z : Nat) : pz x y z 67 29 = 85 := rfl
theorem p_67_30 (x y z : Nat) : pz x y z 67 30 = 86 := rfl
theorem p_67_31 (x y z : Nat) : pz x y z 67 31 = 87 := rfl
theorem p_67_33 (x y z : Nat) : pz x y z 67 33 = 88 := rfl
theorem p_67_34 (x y z : Nat) : pz x y z 67 34 = 89 := rfl
theorem p_67_35 (x y z : Nat) : pz x y z 67 35 = 90 := rfl
theorem p_67_36 (x y z : Nat) : pz x y z 67 36 = 91 := rfl
theorem p_67_37 (x y z : Nat) : pz x y z 67 37 = 92 := rfl
theorem p_67_38 (x y z : Nat) : pz x y z 67 38 = 93 := rfl
theorem p_67_39 (x y z : Nat) : pz x y z 67 39 = 94 := rfl
theorem p_67_40 (x y z : Nat) : pz x y z 67 40 = 95 := rfl
theorem p_67_41 (x y z : Nat) : pz x y z 67 41 = 96 := rfl
theorem p_67_42 (x y z : Nat) : pz x y z 67 42 = 97 := rfl
theorem p_67_43 (x y z : Nat) : pz x y z 67 43 = 98 := rfl
theorem p_67_44 (x y z : Nat) : pz x y z 67 44 = 99 := rfl
theorem p_67_48 (x y z : Nat) : pz x y z 67 48 = 100 := rfl
theorem p_67_49 (x y z : Nat) : pz x y z 67 49 = 101 := rfl
theorem p_67_50 (x y z : Nat) : pz x y z 67 50 = 102 := rfl
theorem p_67_51 (x y z : Nat) : pz x y z 67 51 = 103 := rfl
theorem p_67_52 (x y z : Nat) : pz x y z 67 52 = 104 := rfl
theorem p_67_53 (x y z : Nat) : pz x y z 67 53 = 105 := rfl
theorem p_67_54 (x y z : Nat) : pz x y z 67 54 = 106 := rfl
theorem p_67_55 (x y z : Nat) : pz x y z 67 55 = 107 := rfl
theorem p_x (x y z : Nat) : pz x y z 4 6 = x := rfl
theorem p_y (x y z : Nat) : pz x y z 1 10 = y := rfl
theorem p_z (x y z : Nat) : pz x y z 2 3 = z := rfl
theorem p_sx (x y z r : Nat) : mj_pp (pz x y z) 4 6 r = pz r y z := by
  funext k i; unfold mj_pp pz; by_cases h : k = 4 ∧ i = 6 <;> simp [h]
theorem p_sy (x y z r : Nat) : mj_pp (pz x y z) 1 10 r = pz x r z := by
  funext k i; unfold mj_pp pz
  by_cases h : k = 1 ∧ i = 10
  · simp [h]
  · simp [h]
theorem p_sz (x y z r : Nat) : mj_pp (pz x y z) 2 3 r = pz x y r := by
  funext k i; unfold mj_pp pz
  by_cases h : k = 2 ∧ i = 3
  · simp [h]
  · simp [h]
