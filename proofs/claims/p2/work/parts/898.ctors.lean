/-! the class's constructors (written by a program) -/
theorem dfX0 : ∀ j, j < 6 → defaultValue (tyX0 j) = vp_V [.null, .null, .null, .null, .null, .int 0] j := by
  intro j hj
  match j, hj with
  | 0, _ => rfl
  | 1, _ => rfl
  | 2, _ => rfl
  | 3, _ => rfl
  | 4, _ => rfl
  | 5, _ => rfl
theorem dcX0_init_0 : decode cX0_init 0 = .ok (.aload_n 0, 1) := by decide +kernel
theorem dcX0_init_1 : decode cX0_init 1 = .ok (.invokespecial 3, 3) := by decide +kernel
theorem dcX0_init_4 : decode cX0_init 4 = .ok (.aload_n 0, 1) := by decide +kernel
theorem dcX0_init_5 : decode cX0_init 5 = .ok (.sipush 7000, 3) := by decide +kernel
theorem dcX0_init_8 : decode cX0_init 8 = .ok (.newarray .int, 2) := by decide +kernel
theorem dcX0_init_10 : decode cX0_init 10 = .ok (.putfield 11, 3) := by decide +kernel
theorem dcX0_init_13 : decode cX0_init 13 = .ok (.aload_n 0, 1) := by decide +kernel
theorem dcX0_init_14 : decode cX0_init 14 = .ok (.new 15, 3) := by decide +kernel
theorem dcX0_init_17 : decode cX0_init 17 = .ok (.dup, 1) := by decide +kernel
theorem dcX0_init_18 : decode cX0_init 18 = .ok (.sipush 4800, 3) := by decide +kernel
theorem dcX0_init_21 : decode cX0_init 21 = .ok (.iconst 1, 1) := by decide +kernel
theorem dcX0_init_22 : decode cX0_init 22 = .ok (.invokespecial 17, 3) := by decide +kernel
theorem dcX0_init_25 : decode cX0_init 25 = .ok (.putfield 20, 3) := by decide +kernel
theorem dcX0_init_28 : decode cX0_init 28 = .ok (.aload_n 0, 1) := by decide +kernel
theorem dcX0_init_29 : decode cX0_init 29 = .ok (.aload_n 1, 1) := by decide +kernel
theorem dcX0_init_30 : decode cX0_init 30 = .ok (.putfield 24, 3) := by decide +kernel
theorem dcX0_init_33 : decode cX0_init 33 = .ok (.aload_n 0, 1) := by decide +kernel
theorem dcX0_init_34 : decode cX0_init 34 = .ok (.aload_n 2, 1) := by decide +kernel
theorem dcX0_init_35 : decode cX0_init 35 = .ok (.putfield 28, 3) := by decide +kernel
theorem dcX0_init_38 : decode cX0_init 38 = .ok (.aload_n 0, 1) := by decide +kernel
theorem dcX0_init_39 : decode cX0_init 39 = .ok (.aload_n 3, 1) := by decide +kernel
theorem dcX0_init_40 : decode cX0_init 40 = .ok (.putfield 32, 3) := by decide +kernel
theorem dcX0_init_43 : decode cX0_init 43 = .ok (.return_, 1) := by decide +kernel
theorem dfX1 : ∀ j, j < 2 → defaultValue (tyX1 j) = vp_V [.int 0, .int 0] j := by
  intro j hj
  match j, hj with
  | 0, _ => rfl
  | 1, _ => rfl
theorem dcX1_init_0 : decode cX1_init 0 = .ok (.aload_n 0, 1) := by decide +kernel
theorem dcX1_init_1 : decode cX1_init 1 = .ok (.invokespecial 3, 3) := by decide +kernel
theorem dcX1_init_4 : decode cX1_init 4 = .ok (.return_, 1) := by decide +kernel
theorem dfX2 : ∀ j, j < 12 → defaultValue (tyX2 j) = vp_V [.null, .null, .null, .null, .null, .null, .null, .null, .int 0, .int 0, .int 0, .int 0] j := by
  intro j hj
  match j, hj with
  | 0, _ => rfl
  | 1, _ => rfl
  | 2, _ => rfl
  | 3, _ => rfl
  | 4, _ => rfl
  | 5, _ => rfl
  | 6, _ => rfl
  | 7, _ => rfl
  | 8, _ => rfl
  | 9, _ => rfl
  | 10, _ => rfl
  | 11, _ => rfl
theorem dcX2_init_0 : decode cX2_init 0 = .ok (.aload_n 0, 1) := by decide +kernel
theorem dcX2_init_1 : decode cX2_init 1 = .ok (.invokespecial 3, 3) := by decide +kernel
theorem dcX2_init_4 : decode cX2_init 4 = .ok (.aload_n 0, 1) := by decide +kernel
theorem dcX2_init_5 : decode cX2_init 5 = .ok (.new 9, 3) := by decide +kernel
theorem dcX2_init_8 : decode cX2_init 8 = .ok (.dup, 1) := by decide +kernel
theorem dcX2_init_9 : decode cX2_init 9 = .ok (.bipush 84, 2) := by decide +kernel
theorem dcX2_init_11 : decode cX2_init 11 = .ok (.iconst 3, 1) := by decide +kernel
theorem dcX2_init_12 : decode cX2_init 12 = .ok (.invokespecial 13, 3) := by decide +kernel
theorem dcX2_init_15 : decode cX2_init 15 = .ok (.putfield 16, 3) := by decide +kernel
theorem dcX2_init_18 : decode cX2_init 18 = .ok (.aload_n 0, 1) := by decide +kernel
theorem dcX2_init_19 : decode cX2_init 19 = .ok (.new 20, 3) := by decide +kernel
theorem dcX2_init_22 : decode cX2_init 22 = .ok (.dup, 1) := by decide +kernel
theorem dcX2_init_23 : decode cX2_init 23 = .ok (.sipush 672, 3) := by decide +kernel
theorem dcX2_init_26 : decode cX2_init 26 = .ok (.invokespecial 22, 3) := by decide +kernel
theorem dcX2_init_29 : decode cX2_init 29 = .ok (.putfield 25, 3) := by decide +kernel
theorem dcX2_init_32 : decode cX2_init 32 = .ok (.aload_n 0, 1) := by decide +kernel
theorem dcX2_init_33 : decode cX2_init 33 = .ok (.sipush 2016, 3) := by decide +kernel
theorem dcX2_init_36 : decode cX2_init 36 = .ok (.newarray .int, 2) := by decide +kernel
theorem dcX2_init_38 : decode cX2_init 38 = .ok (.putfield 29, 3) := by decide +kernel
theorem dcX2_init_41 : decode cX2_init 41 = .ok (.aload_n 0, 1) := by decide +kernel
theorem dcX2_init_42 : decode cX2_init 42 = .ok (.new 20, 3) := by decide +kernel
theorem dcX2_init_45 : decode cX2_init 45 = .ok (.dup, 1) := by decide +kernel
theorem dcX2_init_46 : decode cX2_init 46 = .ok (.sipush 12096, 3) := by decide +kernel
theorem dcX2_init_49 : decode cX2_init 49 = .ok (.invokespecial 22, 3) := by decide +kernel
theorem dcX2_init_52 : decode cX2_init 52 = .ok (.putfield 33, 3) := by decide +kernel
theorem dcX2_init_55 : decode cX2_init 55 = .ok (.aload_n 0, 1) := by decide +kernel
theorem dcX2_init_56 : decode cX2_init 56 = .ok (.new 20, 3) := by decide +kernel
theorem dcX2_init_59 : decode cX2_init 59 = .ok (.dup, 1) := by decide +kernel
theorem dcX2_init_60 : decode cX2_init 60 = .ok (.bipush 12, 2) := by decide +kernel
theorem dcX2_init_62 : decode cX2_init 62 = .ok (.invokespecial 22, 3) := by decide +kernel
theorem dcX2_init_65 : decode cX2_init 65 = .ok (.putfield 36, 3) := by decide +kernel
theorem dcX2_init_68 : decode cX2_init 68 = .ok (.aload_n 0, 1) := by decide +kernel
theorem dcX2_init_69 : decode cX2_init 69 = .ok (.iconst (-1), 1) := by decide +kernel
theorem dcX2_init_70 : decode cX2_init 70 = .ok (.putfield 39, 3) := by decide +kernel
theorem dcX2_init_73 : decode cX2_init 73 = .ok (.aload_n 0, 1) := by decide +kernel
theorem dcX2_init_74 : decode cX2_init 74 = .ok (.aload_n 1, 1) := by decide +kernel
theorem dcX2_init_75 : decode cX2_init 75 = .ok (.putfield 43, 3) := by decide +kernel
theorem dcX2_init_78 : decode cX2_init 78 = .ok (.aload_n 0, 1) := by decide +kernel
theorem dcX2_init_79 : decode cX2_init 79 = .ok (.aload_n 2, 1) := by decide +kernel
theorem dcX2_init_80 : decode cX2_init 80 = .ok (.putfield 47, 3) := by decide +kernel
theorem dcX2_init_83 : decode cX2_init 83 = .ok (.aload_n 0, 1) := by decide +kernel
theorem dcX2_init_84 : decode cX2_init 84 = .ok (.aload_n 3, 1) := by decide +kernel
theorem dcX2_init_85 : decode cX2_init 85 = .ok (.putfield 51, 3) := by decide +kernel
theorem dcX2_init_88 : decode cX2_init 88 = .ok (.return_, 1) := by decide +kernel
theorem dfX3 : ∀ j, j < 3 → defaultValue (tyX3 j) = vp_V [.null, .null, .int 0] j := by
  intro j hj
  match j, hj with
  | 0, _ => rfl
  | 1, _ => rfl
  | 2, _ => rfl
theorem dcX3_init_0 : decode cX3_init 0 = .ok (.aload_n 0, 1) := by decide +kernel
theorem dcX3_init_1 : decode cX3_init 1 = .ok (.invokespecial 3, 3) := by decide +kernel
theorem dcX3_init_4 : decode cX3_init 4 = .ok (.aload_n 0, 1) := by decide +kernel
theorem dcX3_init_5 : decode cX3_init 5 = .ok (.aload_n 1, 1) := by decide +kernel
theorem dcX3_init_6 : decode cX3_init 6 = .ok (.putfield 9, 3) := by decide +kernel
theorem dcX3_init_9 : decode cX3_init 9 = .ok (.aload_n 0, 1) := by decide +kernel
theorem dcX3_init_10 : decode cX3_init 10 = .ok (.aload_n 2, 1) := by decide +kernel
theorem dcX3_init_11 : decode cX3_init 11 = .ok (.putfield 15, 3) := by decide +kernel
theorem dcX3_init_14 : decode cX3_init 14 = .ok (.return_, 1) := by decide +kernel
theorem dfX4 : ∀ j, j < 15 → defaultValue (tyX4 j) = vp_V [.null, .null, .null, .null, .null, .null, .null, .int 0, .int 0, .long 0, .int 0, .int 0, .int 0, .int 0, .long 0] j := by
  intro j hj
  match j, hj with
  | 0, _ => rfl
  | 1, _ => rfl
  | 2, _ => rfl
  | 3, _ => rfl
  | 4, _ => rfl
  | 5, _ => rfl
  | 6, _ => rfl
  | 7, _ => rfl
  | 8, _ => rfl
  | 9, _ => rfl
  | 10, _ => rfl
  | 11, _ => rfl
  | 12, _ => rfl
  | 13, _ => rfl
  | 14, _ => rfl
theorem dcX4_init_0 : decode cX4_init 0 = .ok (.aload_n 0, 1) := by decide +kernel
theorem dcX4_init_1 : decode cX4_init 1 = .ok (.invokespecial 5, 3) := by decide +kernel
theorem dcX4_init_4 : decode cX4_init 4 = .ok (.aload_n 0, 1) := by decide +kernel
theorem dcX4_init_5 : decode cX4_init 5 = .ok (.new 11, 3) := by decide +kernel
theorem dcX4_init_8 : decode cX4_init 8 = .ok (.dup, 1) := by decide +kernel
theorem dcX4_init_9 : decode cX4_init 9 = .ok (.sipush 2184, 3) := by decide +kernel
theorem dcX4_init_12 : decode cX4_init 12 = .ok (.iconst 2, 1) := by decide +kernel
theorem dcX4_init_13 : decode cX4_init 13 = .ok (.invokespecial 13, 3) := by decide +kernel
theorem dcX4_init_16 : decode cX4_init 16 = .ok (.putfield 16, 3) := by decide +kernel
theorem dcX4_init_19 : decode cX4_init 19 = .ok (.aload_n 0, 1) := by decide +kernel
theorem dcX4_init_20 : decode cX4_init 20 = .ok (.new 11, 3) := by decide +kernel
theorem dcX4_init_23 : decode cX4_init 23 = .ok (.dup, 1) := by decide +kernel
theorem dcX4_init_24 : decode cX4_init 24 = .ok (.bipush 41, 2) := by decide +kernel
theorem dcX4_init_26 : decode cX4_init 26 = .ok (.bipush 7, 2) := by decide +kernel
theorem dcX4_init_28 : decode cX4_init 28 = .ok (.invokespecial 13, 3) := by decide +kernel
theorem dcX4_init_31 : decode cX4_init 31 = .ok (.putfield 20, 3) := by decide +kernel
theorem dcX4_init_34 : decode cX4_init 34 = .ok (.aload_n 0, 1) := by decide +kernel
theorem dcX4_init_35 : decode cX4_init 35 = .ok (.new 23, 3) := by decide +kernel
theorem dcX4_init_38 : decode cX4_init 38 = .ok (.dup, 1) := by decide +kernel
theorem dcX4_init_39 : decode cX4_init 39 = .ok (.sipush 738, 3) := by decide +kernel
theorem dcX4_init_42 : decode cX4_init 42 = .ok (.invokespecial 25, 3) := by decide +kernel
theorem dcX4_init_45 : decode cX4_init 45 = .ok (.putfield 28, 3) := by decide +kernel
theorem dcX4_init_48 : decode cX4_init 48 = .ok (.aload_n 0, 1) := by decide +kernel
theorem dcX4_init_49 : decode cX4_init 49 = .ok (.new 23, 3) := by decide +kernel
theorem dcX4_init_52 : decode cX4_init 52 = .ok (.dup, 1) := by decide +kernel
theorem dcX4_init_53 : decode cX4_init 53 = .ok (.bipush 6, 2) := by decide +kernel
theorem dcX4_init_55 : decode cX4_init 55 = .ok (.invokespecial 25, 3) := by decide +kernel
theorem dcX4_init_58 : decode cX4_init 58 = .ok (.putfield 32, 3) := by decide +kernel
theorem dcX4_init_61 : decode cX4_init 61 = .ok (.aload_n 0, 1) := by decide +kernel
theorem dcX4_init_62 : decode cX4_init 62 = .ok (.aload_n 1, 1) := by decide +kernel
theorem dcX4_init_63 : decode cX4_init 63 = .ok (.putfield 35, 3) := by decide +kernel
theorem dcX4_init_66 : decode cX4_init 66 = .ok (.aload_n 0, 1) := by decide +kernel
theorem dcX4_init_67 : decode cX4_init 67 = .ok (.aload_n 2, 1) := by decide +kernel
theorem dcX4_init_68 : decode cX4_init 68 = .ok (.putfield 39, 3) := by decide +kernel
theorem dcX4_init_71 : decode cX4_init 71 = .ok (.aload_n 0, 1) := by decide +kernel
theorem dcX4_init_72 : decode cX4_init 72 = .ok (.aload_n 3, 1) := by decide +kernel
theorem dcX4_init_73 : decode cX4_init 73 = .ok (.putfield 43, 3) := by decide +kernel
theorem dcX4_init_76 : decode cX4_init 76 = .ok (.return_, 1) := by decide +kernel
theorem dfX5 : ∀ j, j < 21 → defaultValue (tyX5 j) = vp_V [.null, .null, .null, .null, .int 0, .int 0, .int 0, .int 0, .int 0, .int 0, .int 0, .int 0, .int 0, .int 0, .int 0, .int 0, .int 0, .int 0, .int 0, .int 0, .int 0] j := by
  intro j hj
  match j, hj with
  | 0, _ => rfl
  | 1, _ => rfl
  | 2, _ => rfl
  | 3, _ => rfl
  | 4, _ => rfl
  | 5, _ => rfl
  | 6, _ => rfl
  | 7, _ => rfl
  | 8, _ => rfl
  | 9, _ => rfl
  | 10, _ => rfl
  | 11, _ => rfl
  | 12, _ => rfl
  | 13, _ => rfl
  | 14, _ => rfl
  | 15, _ => rfl
  | 16, _ => rfl
  | 17, _ => rfl
  | 18, _ => rfl
  | 19, _ => rfl
  | 20, _ => rfl
  | n + 21, h => exact absurd h (by omega)
theorem dcX5_init_0 : decode cX5_init 0 = .ok (.aload_n 0, 1) := by decide +kernel
theorem dcX5_init_1 : decode cX5_init 1 = .ok (.invokespecial 3, 3) := by decide +kernel
theorem dcX5_init_4 : decode cX5_init 4 = .ok (.aload_n 0, 1) := by decide +kernel
theorem dcX5_init_5 : decode cX5_init 5 = .ok (.new 9, 3) := by decide +kernel
theorem dcX5_init_8 : decode cX5_init 8 = .ok (.dup, 1) := by decide +kernel
theorem dcX5_init_9 : decode cX5_init 9 = .ok (.bipush 10, 2) := by decide +kernel
theorem dcX5_init_11 : decode cX5_init 11 = .ok (.iconst 2, 1) := by decide +kernel
theorem dcX5_init_12 : decode cX5_init 12 = .ok (.invokespecial 11, 3) := by decide +kernel
theorem dcX5_init_15 : decode cX5_init 15 = .ok (.putfield 14, 3) := by decide +kernel
theorem dcX5_init_18 : decode cX5_init 18 = .ok (.aload_n 0, 1) := by decide +kernel
theorem dcX5_init_19 : decode cX5_init 19 = .ok (.aload_n 1, 1) := by decide +kernel
theorem dcX5_init_20 : decode cX5_init 20 = .ok (.putfield 20, 3) := by decide +kernel
theorem dcX5_init_23 : decode cX5_init 23 = .ok (.aload_n 0, 1) := by decide +kernel
theorem dcX5_init_24 : decode cX5_init 24 = .ok (.aload_n 2, 1) := by decide +kernel
theorem dcX5_init_25 : decode cX5_init 25 = .ok (.putfield 24, 3) := by decide +kernel
theorem dcX5_init_28 : decode cX5_init 28 = .ok (.aload_n 0, 1) := by decide +kernel
theorem dcX5_init_29 : decode cX5_init 29 = .ok (.aload_n 3, 1) := by decide +kernel
theorem dcX5_init_30 : decode cX5_init 30 = .ok (.putfield 28, 3) := by decide +kernel
theorem dcX5_init_33 : decode cX5_init 33 = .ok (.return_, 1) := by decide +kernel
theorem dfX6 : ∀ j, j < 18 → defaultValue (tyX6 j) = vp_V [.null, .null, .null, .null, .null, .null, .null, .null, .null, .null, .null, .null, .null, .null, .null, .null, .null, .int 0] j := by
  intro j hj
  match j, hj with
  | 0, _ => rfl
  | 1, _ => rfl
  | 2, _ => rfl
  | 3, _ => rfl
  | 4, _ => rfl
  | 5, _ => rfl
  | 6, _ => rfl
  | 7, _ => rfl
  | 8, _ => rfl
  | 9, _ => rfl
  | 10, _ => rfl
  | 11, _ => rfl
  | 12, _ => rfl
  | 13, _ => rfl
  | 14, _ => rfl
  | 15, _ => rfl
  | 16, _ => rfl
  | 17, _ => rfl
  | n + 18, h => exact absurd h (by omega)
theorem dcX6_init_0 : decode cX6_init 0 = .ok (.aload_n 0, 1) := by decide +kernel
theorem dcX6_init_1 : decode cX6_init 1 = .ok (.invokespecial 3, 3) := by decide +kernel
theorem dcX6_init_4 : decode cX6_init 4 = .ok (.aload_n 0, 1) := by decide +kernel
theorem dcX6_init_5 : decode cX6_init 5 = .ok (.new 9, 3) := by decide +kernel
theorem dcX6_init_8 : decode cX6_init 8 = .ok (.dup, 1) := by decide +kernel
theorem dcX6_init_9 : decode cX6_init 9 = .ok (.bipush 12, 2) := by decide +kernel
theorem dcX6_init_11 : decode cX6_init 11 = .ok (.bipush 9, 2) := by decide +kernel
theorem dcX6_init_13 : decode cX6_init 13 = .ok (.invokespecial 11, 3) := by decide +kernel
theorem dcX6_init_16 : decode cX6_init 16 = .ok (.putfield 14, 3) := by decide +kernel
theorem dcX6_init_19 : decode cX6_init 19 = .ok (.aload_n 0, 1) := by decide +kernel
theorem dcX6_init_20 : decode cX6_init 20 = .ok (.new 9, 3) := by decide +kernel
theorem dcX6_init_23 : decode cX6_init 23 = .ok (.dup, 1) := by decide +kernel
theorem dcX6_init_24 : decode cX6_init 24 = .ok (.sipush 300, 3) := by decide +kernel
theorem dcX6_init_27 : decode cX6_init 27 = .ok (.iconst 5, 1) := by decide +kernel
theorem dcX6_init_28 : decode cX6_init 28 = .ok (.invokespecial 11, 3) := by decide +kernel
theorem dcX6_init_31 : decode cX6_init 31 = .ok (.putfield 20, 3) := by decide +kernel
theorem dcX6_init_34 : decode cX6_init 34 = .ok (.aload_n 0, 1) := by decide +kernel
theorem dcX6_init_35 : decode cX6_init 35 = .ok (.new 9, 3) := by decide +kernel
theorem dcX6_init_38 : decode cX6_init 38 = .ok (.dup, 1) := by decide +kernel
theorem dcX6_init_39 : decode cX6_init 39 = .ok (.bipush 60, 2) := by decide +kernel
theorem dcX6_init_41 : decode cX6_init 41 = .ok (.bipush 7, 2) := by decide +kernel
theorem dcX6_init_43 : decode cX6_init 43 = .ok (.invokespecial 11, 3) := by decide +kernel
theorem dcX6_init_46 : decode cX6_init 46 = .ok (.putfield 23, 3) := by decide +kernel
theorem dcX6_init_49 : decode cX6_init 49 = .ok (.aload_n 0, 1) := by decide +kernel
theorem dcX6_init_50 : decode cX6_init 50 = .ok (.new 9, 3) := by decide +kernel
theorem dcX6_init_53 : decode cX6_init 53 = .ok (.dup, 1) := by decide +kernel
theorem dcX6_init_54 : decode cX6_init 54 = .ok (.bipush 8, 2) := by decide +kernel
theorem dcX6_init_56 : decode cX6_init 56 = .ok (.iconst 5, 1) := by decide +kernel
theorem dcX6_init_57 : decode cX6_init 57 = .ok (.invokespecial 11, 3) := by decide +kernel
theorem dcX6_init_60 : decode cX6_init 60 = .ok (.putfield 26, 3) := by decide +kernel
theorem dcX6_init_63 : decode cX6_init 63 = .ok (.aload_n 0, 1) := by decide +kernel
theorem dcX6_init_64 : decode cX6_init 64 = .ok (.new 9, 3) := by decide +kernel
theorem dcX6_init_67 : decode cX6_init 67 = .ok (.dup, 1) := by decide +kernel
theorem dcX6_init_68 : decode cX6_init 68 = .ok (.bipush 80, 2) := by decide +kernel
theorem dcX6_init_70 : decode cX6_init 70 = .ok (.iconst 4, 1) := by decide +kernel
theorem dcX6_init_71 : decode cX6_init 71 = .ok (.invokespecial 11, 3) := by decide +kernel
theorem dcX6_init_74 : decode cX6_init 74 = .ok (.putfield 29, 3) := by decide +kernel
theorem dcX6_init_77 : decode cX6_init 77 = .ok (.aload_n 0, 1) := by decide +kernel
theorem dcX6_init_78 : decode cX6_init 78 = .ok (.new 9, 3) := by decide +kernel
theorem dcX6_init_81 : decode cX6_init 81 = .ok (.dup, 1) := by decide +kernel
theorem dcX6_init_82 : decode cX6_init 82 = .ok (.bipush 24, 2) := by decide +kernel
theorem dcX6_init_84 : decode cX6_init 84 = .ok (.bipush 7, 2) := by decide +kernel
theorem dcX6_init_86 : decode cX6_init 86 = .ok (.invokespecial 11, 3) := by decide +kernel
theorem dcX6_init_89 : decode cX6_init 89 = .ok (.putfield 32, 3) := by decide +kernel
theorem dcX6_init_92 : decode cX6_init 92 = .ok (.aload_n 0, 1) := by decide +kernel
theorem dcX6_init_93 : decode cX6_init 93 = .ok (.new 9, 3) := by decide +kernel
theorem dcX6_init_96 : decode cX6_init 96 = .ok (.dup, 1) := by decide +kernel
theorem dcX6_init_97 : decode cX6_init 97 = .ok (.bipush 24, 2) := by decide +kernel
theorem dcX6_init_99 : decode cX6_init 99 = .ok (.bipush 6, 2) := by decide +kernel
theorem dcX6_init_101 : decode cX6_init 101 = .ok (.invokespecial 11, 3) := by decide +kernel
theorem dcX6_init_104 : decode cX6_init 104 = .ok (.putfield 35, 3) := by decide +kernel
theorem dcX6_init_107 : decode cX6_init 107 = .ok (.aload_n 0, 1) := by decide +kernel
theorem dcX6_init_108 : decode cX6_init 108 = .ok (.new 9, 3) := by decide +kernel
theorem dcX6_init_111 : decode cX6_init 111 = .ok (.dup, 1) := by decide +kernel
theorem dcX6_init_112 : decode cX6_init 112 = .ok (.bipush 12, 2) := by decide +kernel
theorem dcX6_init_114 : decode cX6_init 114 = .ok (.iconst 3, 1) := by decide +kernel
theorem dcX6_init_115 : decode cX6_init 115 = .ok (.invokespecial 11, 3) := by decide +kernel
theorem dcX6_init_118 : decode cX6_init 118 = .ok (.putfield 38, 3) := by decide +kernel
theorem dcX6_init_121 : decode cX6_init 121 = .ok (.aload_n 0, 1) := by decide +kernel
theorem dcX6_init_122 : decode cX6_init 122 = .ok (.new 9, 3) := by decide +kernel
theorem dcX6_init_125 : decode cX6_init 125 = .ok (.dup, 1) := by decide +kernel
theorem dcX6_init_126 : decode cX6_init 126 = .ok (.sipush 400, 3) := by decide +kernel
theorem dcX6_init_129 : decode cX6_init 129 = .ok (.bipush 7, 2) := by decide +kernel
theorem dcX6_init_131 : decode cX6_init 131 = .ok (.invokespecial 11, 3) := by decide +kernel
theorem dcX6_init_134 : decode cX6_init 134 = .ok (.putfield 41, 3) := by decide +kernel
theorem dcX6_init_137 : decode cX6_init 137 = .ok (.aload_n 0, 1) := by decide +kernel
theorem dcX6_init_138 : decode cX6_init 138 = .ok (.new 9, 3) := by decide +kernel
theorem dcX6_init_141 : decode cX6_init 141 = .ok (.dup, 1) := by decide +kernel
theorem dcX6_init_142 : decode cX6_init 142 = .ok (.sipush 2700, 3) := by decide +kernel
theorem dcX6_init_145 : decode cX6_init 145 = .ok (.iconst 4, 1) := by decide +kernel
theorem dcX6_init_146 : decode cX6_init 146 = .ok (.invokespecial 11, 3) := by decide +kernel
theorem dcX6_init_149 : decode cX6_init 149 = .ok (.putfield 44, 3) := by decide +kernel
theorem dcX6_init_152 : decode cX6_init 152 = .ok (.aload_n 0, 1) := by decide +kernel
theorem dcX6_init_153 : decode cX6_init 153 = .ok (.new 9, 3) := by decide +kernel
theorem dcX6_init_156 : decode cX6_init 156 = .ok (.dup, 1) := by decide +kernel
theorem dcX6_init_157 : decode cX6_init 157 = .ok (.sipush 128, 3) := by decide +kernel
theorem dcX6_init_160 : decode cX6_init 160 = .ok (.iconst 3, 1) := by decide +kernel
theorem dcX6_init_161 : decode cX6_init 161 = .ok (.invokespecial 11, 3) := by decide +kernel
theorem dcX6_init_164 : decode cX6_init 164 = .ok (.putfield 47, 3) := by decide +kernel
theorem dcX6_init_167 : decode cX6_init 167 = .ok (.aload_n 0, 1) := by decide +kernel
theorem dcX6_init_168 : decode cX6_init 168 = .ok (.new 9, 3) := by decide +kernel
theorem dcX6_init_171 : decode cX6_init 171 = .ok (.dup, 1) := by decide +kernel
theorem dcX6_init_172 : decode cX6_init 172 = .ok (.sipush 904, 3) := by decide +kernel
theorem dcX6_init_175 : decode cX6_init 175 = .ok (.bipush 10, 2) := by decide +kernel
theorem dcX6_init_177 : decode cX6_init 177 = .ok (.invokespecial 11, 3) := by decide +kernel
theorem dcX6_init_180 : decode cX6_init 180 = .ok (.putfield 50, 3) := by decide +kernel
theorem dcX6_init_183 : decode cX6_init 183 = .ok (.aload_n 0, 1) := by decide +kernel
theorem dcX6_init_184 : decode cX6_init 184 = .ok (.new 9, 3) := by decide +kernel
theorem dcX6_init_187 : decode cX6_init 187 = .ok (.dup, 1) := by decide +kernel
theorem dcX6_init_188 : decode cX6_init 188 = .ok (.sipush 900, 3) := by decide +kernel
theorem dcX6_init_191 : decode cX6_init 191 = .ok (.iconst 4, 1) := by decide +kernel
theorem dcX6_init_192 : decode cX6_init 192 = .ok (.invokespecial 11, 3) := by decide +kernel
theorem dcX6_init_195 : decode cX6_init 195 = .ok (.putfield 53, 3) := by decide +kernel
theorem dcX6_init_198 : decode cX6_init 198 = .ok (.aload_n 0, 1) := by decide +kernel
theorem dcX6_init_199 : decode cX6_init 199 = .ok (.new 9, 3) := by decide +kernel
theorem dcX6_init_202 : decode cX6_init 202 = .ok (.dup, 1) := by decide +kernel
theorem dcX6_init_203 : decode cX6_init 203 = .ok (.sipush 900, 3) := by decide +kernel
theorem dcX6_init_206 : decode cX6_init 206 = .ok (.iconst 2, 1) := by decide +kernel
theorem dcX6_init_207 : decode cX6_init 207 = .ok (.invokespecial 11, 3) := by decide +kernel
theorem dcX6_init_210 : decode cX6_init 210 = .ok (.putfield 56, 3) := by decide +kernel
theorem dcX6_init_213 : decode cX6_init 213 = .ok (.aload_n 0, 1) := by decide +kernel
theorem dcX6_init_214 : decode cX6_init 214 = .ok (.new 9, 3) := by decide +kernel
theorem dcX6_init_217 : decode cX6_init 217 = .ok (.dup, 1) := by decide +kernel
theorem dcX6_init_218 : decode cX6_init 218 = .ok (.sipush 180, 3) := by decide +kernel
theorem dcX6_init_221 : decode cX6_init 221 = .ok (.iconst 3, 1) := by decide +kernel
theorem dcX6_init_222 : decode cX6_init 222 = .ok (.invokespecial 11, 3) := by decide +kernel
theorem dcX6_init_225 : decode cX6_init 225 = .ok (.putfield 59, 3) := by decide +kernel
theorem dcX6_init_228 : decode cX6_init 228 = .ok (.aload_n 0, 1) := by decide +kernel
theorem dcX6_init_229 : decode cX6_init 229 = .ok (.new 9, 3) := by decide +kernel
theorem dcX6_init_232 : decode cX6_init 232 = .ok (.dup, 1) := by decide +kernel
theorem dcX6_init_233 : decode cX6_init 233 = .ok (.sipush 900, 3) := by decide +kernel
theorem dcX6_init_236 : decode cX6_init 236 = .ok (.iconst 2, 1) := by decide +kernel
theorem dcX6_init_237 : decode cX6_init 237 = .ok (.invokespecial 11, 3) := by decide +kernel
theorem dcX6_init_240 : decode cX6_init 240 = .ok (.putfield 62, 3) := by decide +kernel
theorem dcX6_init_243 : decode cX6_init 243 = .ok (.aload_n 0, 1) := by decide +kernel
theorem dcX6_init_244 : decode cX6_init 244 = .ok (.new 9, 3) := by decide +kernel
theorem dcX6_init_247 : decode cX6_init 247 = .ok (.dup, 1) := by decide +kernel
theorem dcX6_init_248 : decode cX6_init 248 = .ok (.bipush 24, 2) := by decide +kernel
theorem dcX6_init_250 : decode cX6_init 250 = .ok (.iconst 1, 1) := by decide +kernel
theorem dcX6_init_251 : decode cX6_init 251 = .ok (.invokespecial 11, 3) := by decide +kernel
theorem dcX6_init_254 : decode cX6_init 254 = .ok (.putfield 65, 3) := by decide +kernel
theorem dcX6_init_257 : decode cX6_init 257 = .ok (.return_, 1) := by decide +kernel
theorem dfX7 : ∀ j, j < 11 → defaultValue (tyX7 j) = vp_V [.null, .null, .null, .null, .null, .null, .null, .int 0, .int 0, .int 0, .int 0] j := by
  intro j hj
  match j, hj with
  | 0, _ => rfl
  | 1, _ => rfl
  | 2, _ => rfl
  | 3, _ => rfl
  | 4, _ => rfl
  | 5, _ => rfl
  | 6, _ => rfl
  | 7, _ => rfl
  | 8, _ => rfl
  | 9, _ => rfl
  | 10, _ => rfl
theorem dcX7_init_0 : decode cX7_init 0 = .ok (.aload_n 0, 1) := by decide +kernel
theorem dcX7_init_1 : decode cX7_init 1 = .ok (.invokespecial 3, 3) := by decide +kernel
theorem dcX7_init_4 : decode cX7_init 4 = .ok (.aload_n 0, 1) := by decide +kernel
theorem dcX7_init_5 : decode cX7_init 5 = .ok (.new 9, 3) := by decide +kernel
theorem dcX7_init_8 : decode cX7_init 8 = .ok (.dup, 1) := by decide +kernel
theorem dcX7_init_9 : decode cX7_init 9 = .ok (.sipush 200, 3) := by decide +kernel
theorem dcX7_init_12 : decode cX7_init 12 = .ok (.iconst 1, 1) := by decide +kernel
theorem dcX7_init_13 : decode cX7_init 13 = .ok (.invokespecial 11, 3) := by decide +kernel
theorem dcX7_init_16 : decode cX7_init 16 = .ok (.putfield 14, 3) := by decide +kernel
theorem dcX7_init_19 : decode cX7_init 19 = .ok (.aload_n 0, 1) := by decide +kernel
theorem dcX7_init_20 : decode cX7_init 20 = .ok (.new 20, 3) := by decide +kernel
theorem dcX7_init_23 : decode cX7_init 23 = .ok (.dup, 1) := by decide +kernel
theorem dcX7_init_24 : decode cX7_init 24 = .ok (.sipush 24000, 3) := by decide +kernel
theorem dcX7_init_27 : decode cX7_init 27 = .ok (.invokespecial 22, 3) := by decide +kernel
theorem dcX7_init_30 : decode cX7_init 30 = .ok (.putfield 25, 3) := by decide +kernel
theorem dcX7_init_33 : decode cX7_init 33 = .ok (.aload_n 0, 1) := by decide +kernel
theorem dcX7_init_34 : decode cX7_init 34 = .ok (.new 20, 3) := by decide +kernel
theorem dcX7_init_37 : decode cX7_init 37 = .ok (.dup, 1) := by decide +kernel
theorem dcX7_init_38 : decode cX7_init 38 = .ok (.sipush 16080, 3) := by decide +kernel
theorem dcX7_init_41 : decode cX7_init 41 = .ok (.invokespecial 22, 3) := by decide +kernel
theorem dcX7_init_44 : decode cX7_init 44 = .ok (.putfield 29, 3) := by decide +kernel
theorem dcX7_init_47 : decode cX7_init 47 = .ok (.aload_n 0, 1) := by decide +kernel
theorem dcX7_init_48 : decode cX7_init 48 = .ok (.sipush 4704, 3) := by decide +kernel
theorem dcX7_init_51 : decode cX7_init 51 = .ok (.newarray .long, 2) := by decide +kernel
theorem dcX7_init_53 : decode cX7_init 53 = .ok (.putfield 32, 3) := by decide +kernel
theorem dcX7_init_56 : decode cX7_init 56 = .ok (.aload_n 0, 1) := by decide +kernel
theorem dcX7_init_57 : decode cX7_init 57 = .ok (.new 20, 3) := by decide +kernel
theorem dcX7_init_60 : decode cX7_init 60 = .ok (.dup, 1) := by decide +kernel
theorem dcX7_init_61 : decode cX7_init 61 = .ok (.sipush 300, 3) := by decide +kernel
theorem dcX7_init_64 : decode cX7_init 64 = .ok (.invokespecial 22, 3) := by decide +kernel
theorem dcX7_init_67 : decode cX7_init 67 = .ok (.putfield 36, 3) := by decide +kernel
theorem dcX7_init_70 : decode cX7_init 70 = .ok (.aload_n 0, 1) := by decide +kernel
theorem dcX7_init_71 : decode cX7_init 71 = .ok (.new 9, 3) := by decide +kernel
theorem dcX7_init_74 : decode cX7_init 74 = .ok (.dup, 1) := by decide +kernel
theorem dcX7_init_75 : decode cX7_init 75 = .ok (.sipush 300, 3) := by decide +kernel
theorem dcX7_init_78 : decode cX7_init 78 = .ok (.iconst 2, 1) := by decide +kernel
theorem dcX7_init_79 : decode cX7_init 79 = .ok (.invokespecial 11, 3) := by decide +kernel
theorem dcX7_init_82 : decode cX7_init 82 = .ok (.putfield 39, 3) := by decide +kernel
theorem dcX7_init_85 : decode cX7_init 85 = .ok (.aload_n 0, 1) := by decide +kernel
theorem dcX7_init_86 : decode cX7_init 86 = .ok (.aload_n 1, 1) := by decide +kernel
theorem dcX7_init_87 : decode cX7_init 87 = .ok (.putfield 42, 3) := by decide +kernel
theorem dcX7_init_90 : decode cX7_init 90 = .ok (.return_, 1) := by decide +kernel
theorem dfX8 : ∀ j, j < 3 → defaultValue (tyX8 j) = vp_V [.null, .int 0, .int 0] j := by
  intro j hj
  match j, hj with
  | 0, _ => rfl
  | 1, _ => rfl
  | 2, _ => rfl
theorem dcX8_init_0 : decode cX8_init 0 = .ok (.aload_n 0, 1) := by decide +kernel
theorem dcX8_init_1 : decode cX8_init 1 = .ok (.invokespecial 3, 3) := by decide +kernel
theorem dcX8_init_4 : decode cX8_init 4 = .ok (.aload_n 0, 1) := by decide +kernel
theorem dcX8_init_5 : decode cX8_init 5 = .ok (.iload_n 2, 1) := by decide +kernel
theorem dcX8_init_6 : decode cX8_init 6 = .ok (.ifCond .le 7, 3) := by decide +kernel
theorem dcX8_init_9 : decode cX8_init 9 = .ok (.iload_n 2, 1) := by decide +kernel
theorem dcX8_init_10 : decode cX8_init 10 = .ok (.goto 4, 3) := by decide +kernel
theorem dcX8_init_13 : decode cX8_init 13 = .ok (.iconst 1, 1) := by decide +kernel
theorem dcX8_init_14 : decode cX8_init 14 = .ok (.putfield 9, 3) := by decide +kernel
theorem dcX8_init_17 : decode cX8_init 17 = .ok (.aload_n 0, 1) := by decide +kernel
theorem dcX8_init_18 : decode cX8_init 18 = .ok (.iload_n 1, 1) := by decide +kernel
theorem dcX8_init_19 : decode cX8_init 19 = .ok (.ifCond .le 12, 3) := by decide +kernel
theorem dcX8_init_22 : decode cX8_init 22 = .ok (.iload_n 1, 1) := by decide +kernel
theorem dcX8_init_23 : decode cX8_init 23 = .ok (.aload_n 0, 1) := by decide +kernel
theorem dcX8_init_24 : decode cX8_init 24 = .ok (.getfield 9, 3) := by decide +kernel
theorem dcX8_init_27 : decode cX8_init 27 = .ok (.imul, 1) := by decide +kernel
theorem dcX8_init_28 : decode cX8_init 28 = .ok (.goto 4, 3) := by decide +kernel
theorem dcX8_init_31 : decode cX8_init 31 = .ok (.iconst 0, 1) := by decide +kernel
theorem dcX8_init_32 : decode cX8_init 32 = .ok (.newarray .int, 2) := by decide +kernel
theorem dcX8_init_34 : decode cX8_init 34 = .ok (.putfield 15, 3) := by decide +kernel
theorem dcX8_init_37 : decode cX8_init 37 = .ok (.return_, 1) := by decide +kernel
theorem dfX9 : ∀ j, j < 8 → defaultValue (tyX9 j) = vp_V [.null, .null, .null, .null, .null, .null, .int 0, .int 0] j := by
  intro j hj
  match j, hj with
  | 0, _ => rfl
  | 1, _ => rfl
  | 2, _ => rfl
  | 3, _ => rfl
  | 4, _ => rfl
  | 5, _ => rfl
  | 6, _ => rfl
  | 7, _ => rfl
theorem dcX9_init_0 : decode cX9_init 0 = .ok (.aload_n 0, 1) := by decide +kernel
theorem dcX9_init_1 : decode cX9_init 1 = .ok (.invokespecial 3, 3) := by decide +kernel
theorem dcX9_init_4 : decode cX9_init 4 = .ok (.aload_n 0, 1) := by decide +kernel
theorem dcX9_init_5 : decode cX9_init 5 = .ok (.sipush 5014, 3) := by decide +kernel
theorem dcX9_init_8 : decode cX9_init 8 = .ok (.newarray .byte, 2) := by decide +kernel
theorem dcX9_init_10 : decode cX9_init 10 = .ok (.putfield 9, 3) := by decide +kernel
theorem dcX9_init_13 : decode cX9_init 13 = .ok (.aload_n 0, 1) := by decide +kernel
theorem dcX9_init_14 : decode cX9_init 14 = .ok (.sipush 902, 3) := by decide +kernel
theorem dcX9_init_17 : decode cX9_init 17 = .ok (.newarray .int, 2) := by decide +kernel
theorem dcX9_init_19 : decode cX9_init 19 = .ok (.putfield 15, 3) := by decide +kernel
theorem dcX9_init_22 : decode cX9_init 22 = .ok (.aload_n 0, 1) := by decide +kernel
theorem dcX9_init_23 : decode cX9_init 23 = .ok (.sipush 902, 3) := by decide +kernel
theorem dcX9_init_26 : decode cX9_init 26 = .ok (.newarray .int, 2) := by decide +kernel
theorem dcX9_init_28 : decode cX9_init 28 = .ok (.putfield 19, 3) := by decide +kernel
theorem dcX9_init_31 : decode cX9_init 31 = .ok (.aload_n 0, 1) := by decide +kernel
theorem dcX9_init_32 : decode cX9_init 32 = .ok (.sipush 902, 3) := by decide +kernel
theorem dcX9_init_35 : decode cX9_init 35 = .ok (.newarray .int, 2) := by decide +kernel
theorem dcX9_init_37 : decode cX9_init 37 = .ok (.putfield 22, 3) := by decide +kernel
theorem dcX9_init_40 : decode cX9_init 40 = .ok (.aload_n 0, 1) := by decide +kernel
theorem dcX9_init_41 : decode cX9_init 41 = .ok (.new 25, 3) := by decide +kernel
theorem dcX9_init_44 : decode cX9_init 44 = .ok (.dup, 1) := by decide +kernel
theorem dcX9_init_45 : decode cX9_init 45 = .ok (.sipush 904, 3) := by decide +kernel
theorem dcX9_init_48 : decode cX9_init 48 = .ok (.iconst 2, 1) := by decide +kernel
theorem dcX9_init_49 : decode cX9_init 49 = .ok (.invokespecial 27, 3) := by decide +kernel
theorem dcX9_init_52 : decode cX9_init 52 = .ok (.putfield 30, 3) := by decide +kernel
theorem dcX9_init_55 : decode cX9_init 55 = .ok (.aload_n 0, 1) := by decide +kernel
theorem dcX9_init_56 : decode cX9_init 56 = .ok (.new 25, 3) := by decide +kernel
theorem dcX9_init_59 : decode cX9_init 59 = .ok (.dup, 1) := by decide +kernel
theorem dcX9_init_60 : decode cX9_init 60 = .ok (.sipush 902, 3) := by decide +kernel
theorem dcX9_init_63 : decode cX9_init 63 = .ok (.iconst 5, 1) := by decide +kernel
theorem dcX9_init_64 : decode cX9_init 64 = .ok (.invokespecial 27, 3) := by decide +kernel
theorem dcX9_init_67 : decode cX9_init 67 = .ok (.putfield 34, 3) := by decide +kernel
theorem dcX9_init_70 : decode cX9_init 70 = .ok (.getstatic 37, 3) := by decide +kernel
theorem dcX9_init_73 : decode cX9_init 73 = .ok (.iconst 0, 1) := by decide +kernel
theorem dcX9_init_74 : decode cX9_init 74 = .ok (.aload_n 0, 1) := by decide +kernel
theorem dcX9_init_75 : decode cX9_init 75 = .ok (.getfield 9, 3) := by decide +kernel
theorem dcX9_init_78 : decode cX9_init 78 = .ok (.sipush 5000, 3) := by decide +kernel
theorem dcX9_init_81 : decode cX9_init 81 = .ok (.bipush 14, 2) := by decide +kernel
theorem dcX9_init_83 : decode cX9_init 83 = .ok (.invokestatic 40, 3) := by decide +kernel
theorem dcX9_init_86 : decode cX9_init 86 = .ok (.return_, 1) := by decide +kernel
theorem dfX10 : ∀ j, j < 1 → defaultValue (tyX10 j) = vp_V [.null] j := by
  intro j hj
  match j, hj with
  | 0, _ => rfl
theorem dcX10_init_0 : decode cX10_init 0 = .ok (.aload_n 0, 1) := by decide +kernel
theorem dcX10_init_1 : decode cX10_init 1 = .ok (.invokespecial 3, 3) := by decide +kernel
theorem dcX10_init_4 : decode cX10_init 4 = .ok (.aload_n 0, 1) := by decide +kernel
theorem dcX10_init_5 : decode cX10_init 5 = .ok (.iload_n 1, 1) := by decide +kernel
theorem dcX10_init_6 : decode cX10_init 6 = .ok (.ifCond .le 7, 3) := by decide +kernel
theorem dcX10_init_9 : decode cX10_init 9 = .ok (.iload_n 1, 1) := by decide +kernel
theorem dcX10_init_10 : decode cX10_init 10 = .ok (.goto 4, 3) := by decide +kernel
theorem dcX10_init_13 : decode cX10_init 13 = .ok (.iconst 0, 1) := by decide +kernel
theorem dcX10_init_14 : decode cX10_init 14 = .ok (.newarray .long, 2) := by decide +kernel
theorem dcX10_init_16 : decode cX10_init 16 = .ok (.putfield 9, 3) := by decide +kernel
theorem dcX10_init_19 : decode cX10_init 19 = .ok (.return_, 1) := by decide +kernel
theorem jo_i : Cond.instanceMethod Lib.objectInit ∈ ja_B := (ja_m (ck_tb_in (p := 4896) (by decide +kernel)) rfl)
theorem jo_c : Cond.code Lib.objectInit ⟨#[0xb1]⟩ 1 none ∈ ja_B := ja_m (ck_tb_in (p := 4897) (by decide +kernel)) rfl
section CT
variable {l : Launch} {D : va_G} {cA : Nat → ClassId} {a z : Nat}
theorem jn_at {F : State → Prop} {ci d mc ms : Nat} {own : String} {cc : ByteArray} {nL pc : Nat} {Ls : List (Nat × Value)} {S : List Value} {ws : va_W} (ws2 : va_W) {n k : Nat} {Qn : List Value → va_W → Prop} (h : ws = ws2) (kk : jn_J l D cA F a z ci d mc ms own cc nL pc Ls S ws2 n k Qn) : jn_J l D cA F a z ci d mc ms own cc nL pc Ls S ws n k Qn := by
  subst h
  exact kk
theorem jn_ifle {F : State → Prop} {ci d mc ms : Nat} {own : String} {cc : ByteArray} {nL pc : Nat} {Ls : List (Nat × Value)} {S : List Value} {ws : va_W} {n k : Nat} {Qn : List Value → va_W → Prop} {x : Int32} {off : Int} (tgt : Nat) (hx0 : ¬ x ≤ 0) (hd : decode cc pc = .ok (.ifCond .le off, 3)) (ht : (pc : Int) + off = (tgt : Int)) (kk : jn_J l D cA F a z ci d mc ms own cc nL (pc + 3) Ls S ws n k Qn) : jn_J l D cA F a z ci d mc ms own cc nL pc Ls (.int x :: S) ws n k Qn := by
  intro p e s m args below meth c H locs ls hx hb hml hr hnm hown hts hlk hF hK hz hP hD hS hl
  exact lv_if_le hx hb hd ht (fun q => absurd q hx0) (fun _ => kk p e s m args below meth c H locs ls hx hb hml hr hnm hown hts hlk hF hK hz hP hD hS hl)
theorem jn_goto {F : State → Prop} {ci d mc ms : Nat} {own : String} {cc : ByteArray} {nL pc : Nat} {Ls : List (Nat × Value)} {S : List Value} {ws : va_W} {n k : Nat} {Qn : List Value → va_W → Prop} {off : Int} (tgt : Nat) (hd : decode cc pc = .ok (.goto off, 3)) (ht : (pc : Int) + off = (tgt : Int)) (kk : jn_J l D cA F a z ci d mc ms own cc nL tgt Ls S ws n k Qn) : jn_J l D cA F a z ci d mc ms own cc nL pc Ls S ws n k Qn := by
  intro p e s m args below meth c H locs ls hx hb hml hr hnm hown hts hlk hF hK hz hP hD hS hl
  exact lv_goto hx hb hd ht (kk p e s m args below meth c H locs ls hx hb hml hr hnm hown hts hlk hF hK hz hP hD hS hl)
theorem jn_imul {F : State → Prop} {ci d mc ms : Nat} {own : String} {cc : ByteArray} {nL pc : Nat} {Ls : List (Nat × Value)} {S : List Value} {ws : va_W} {n k : Nat} {Qn : List Value → va_W → Prop} {x y : Int32} (hd : decode cc pc = .ok (.imul, 1)) (kk : jn_J l D cA F a z ci d mc ms own cc nL (pc + 1) Ls (.int (x * y) :: S) ws n k Qn) : jn_J l D cA F a z ci d mc ms own cc nL pc Ls (.int y :: .int x :: S) ws n k Qn := by
  intro p e s m args below meth c H locs ls hx hb hml hr hnm hown hts hlk hF hK hz hP hD hS hl
  exact lv_imul hx hb hd (kk p e s m args below meth c H locs ls hx hb hml hr hnm hown hts hlk hF hK hz hP hD hS hl)
set_option maxHeartbeats 20000000 in
theorem ct_Table {mo wi : Int32} {N : Nat} (h1 : ¬ mo ≤ 0) (h2 : ¬ wi ≤ 0) (hneg : ¬ mo * wi < 0) (hN : (mo * wi).toNatClampNeg = N) (hbig : N * componentBytes .int ≤ 536870912) : jn_J l D cA (fun _ => True) a z 8 2 1 (N) RX8 cX8_init 3 0 (lv_args 0 (.ref a :: [.int mo, .int wi])) [] [(a, .inr (8, [.null, .int 0, .int 0]))] 0 0 (fun fs news => ∃ q1 : Nat, fs = [.ref q1, .int wi, .int 0] ∧ news = [(q1, .inl (cA 0, N, .inl (fun _ => 0)))]) := by
  show jn_J l D cA (fun _ => True) a z 8 2 1 (N) RX8 cX8_init 3 0 [(0, .ref a), (1, .int mo), (2, .int wi)] [] _ 0 0 _
  refine jn_aload_n (x := a) dcX8_init_0 (List.mem_of_getElem? (i := 0) rfl) ?_
  refine jn_obj (ja_m (ck_tb_in (p := 4909) (by decide +kernel)) rfl) jo_i jo_c (by decide) (Nat.le_of_ble_eq_true rfl) dcX8_init_1 ?_
  refine jn_aload_n (x := a) dcX8_init_4 (List.mem_of_getElem? (i := 0) rfl) ?_
  refine jn_iload_n (x := wi) dcX8_init_5 (List.mem_of_getElem? (i := 2) rfl) ?_
  refine jn_ifle 13 (by first | assumption | decide) dcX8_init_6 (by decide) ?_
  refine jn_iload_n (x := wi) dcX8_init_9 (List.mem_of_getElem? (i := 2) rfl) ?_
  refine jn_goto 14 dcX8_init_10 (by decide) ?_
  refine jn_putF (q0 := 0) (cj := 8) (N := 3) (C := RX8) (T := TX8) (j := 1) tyX8 cl_in8 tyX8_ok nmX8 rfl rfl (by decide) (ja_m (ck_tb_in (p := 4911) (by decide +kernel)) rfl) rfl rfl rfl rfl (Nat.le_of_ble_eq_true rfl) dcX8_init_14 ?_
  refine jn_at [(a, .inr (8, [.null, .int wi, .int 0]))] rfl ?_
  refine jn_aload_n (x := a) dcX8_init_17 (List.mem_of_getElem? (i := 0) rfl) ?_
  refine jn_iload_n (x := mo) dcX8_init_18 (List.mem_of_getElem? (i := 1) rfl) ?_
  refine jn_ifle 31 (by first | assumption | decide) dcX8_init_19 (by decide) ?_
  refine jn_iload_n (x := mo) dcX8_init_22 (List.mem_of_getElem? (i := 1) rfl) ?_
  refine jn_aload_n (x := a) dcX8_init_23 (List.mem_of_getElem? (i := 0) rfl) ?_
  refine jn_get (q0 := 0) (cj := 8) (N := 3) (C := RX8) (T := TX8) (j := 1) (v := .int wi) cl_in8 rfl rfl (by decide) (ja_m (ck_tb_in (p := 4911) (by decide +kernel)) rfl) rfl dcX8_init_24 ?_
  refine jn_imul dcX8_init_27 ?_
  refine jn_goto 32 dcX8_init_28 (by decide) ?_
  refine jn_newI (v := (mo * wi)) (N := N) hneg hN hbig (by omega) (by omega) dcX8_init_32 (fun q1 => ?_)
  refine jn_at [(a, .inr (8, [.null, .int wi, .int 0])), (q1, .inl (cA 0, N, .inl (fun _ => 0)))] rfl ?_
  refine jn_putF (q0 := 0) (cj := 8) (N := 3) (C := RX8) (T := TX8) (j := 0) tyX8 cl_in8 tyX8_ok nmX8 rfl rfl (by decide) (ja_m (ck_tb_in (p := 4910) (by decide +kernel)) rfl) rfl rfl rfl rfl (Nat.le_of_ble_eq_true rfl) dcX8_init_34 ?_
  refine jn_at [(a, .inr (8, [.ref q1, .int wi, .int 0])), (q1, .inl (cA 0, N, .inl (fun _ => 0)))] rfl ?_
  exact jn_ret (fs := [.ref q1, .int wi, .int 0]) (news := [(q1, .inl (cA 0, N, .inl (fun _ => 0)))]) rfl ⟨q1, rfl, rfl⟩ (by omega) (by omega) dcX8_init_37
set_option maxHeartbeats 20000000 in
theorem ct_Values {mo : Int32} {N : Nat} (h1 : ¬ mo ≤ 0) (hneg : ¬ mo < 0) (hN : mo.toNatClampNeg = N) (hbig : N * componentBytes .long ≤ 536870912) : jn_J l D cA (fun _ => True) a z 10 2 1 (N) RX10 cX10_init 2 0 (lv_args 0 (.ref a :: [.int mo])) [] [(a, .inr (10, [.null]))] 0 0 (fun fs news => ∃ q1 : Nat, fs = [.ref q1] ∧ news = [(q1, .inl (cA 3, N, .inr (.inl (fun _ => 0))))]) := by
  show jn_J l D cA (fun _ => True) a z 10 2 1 (N) RX10 cX10_init 2 0 [(0, .ref a), (1, .int mo)] [] _ 0 0 _
  refine jn_aload_n (x := a) dcX10_init_0 (List.mem_of_getElem? (i := 0) rfl) ?_
  refine jn_obj (ja_m (ck_tb_in (p := 5240) (by decide +kernel)) rfl) jo_i jo_c (by decide) (Nat.le_of_ble_eq_true rfl) dcX10_init_1 ?_
  refine jn_aload_n (x := a) dcX10_init_4 (List.mem_of_getElem? (i := 0) rfl) ?_
  refine jn_iload_n (x := mo) dcX10_init_5 (List.mem_of_getElem? (i := 1) rfl) ?_
  refine jn_ifle 13 (by first | assumption | decide) dcX10_init_6 (by decide) ?_
  refine jn_iload_n (x := mo) dcX10_init_9 (List.mem_of_getElem? (i := 1) rfl) ?_
  refine jn_goto 14 dcX10_init_10 (by decide) ?_
  refine jn_newL (v := mo) (N := N) hneg hN hbig (by omega) (by omega) dcX10_init_14 (fun q1 => ?_)
  refine jn_at [(a, .inr (10, [.null])), (q1, .inl (cA 3, N, .inr (.inl (fun _ => 0))))] rfl ?_
  refine jn_putF (q0 := 0) (cj := 10) (N := 1) (C := RX10) (T := TX10) (j := 0) tyX10 cl_in10 tyX10_ok nmX10 rfl rfl (by decide) (ja_m (ck_tb_in (p := 5241) (by decide +kernel)) rfl) rfl rfl rfl rfl (Nat.le_of_ble_eq_true rfl) dcX10_init_16 ?_
  refine jn_at [(a, .inr (10, [.ref q1])), (q1, .inl (cA 3, N, .inr (.inl (fun _ => 0))))] rfl ?_
  exact jn_ret (fs := [.ref q1]) (news := [(q1, .inl (cA 3, N, .inr (.inl (fun _ => 0))))]) rfl ⟨q1, rfl, rfl⟩ (by omega) (by omega) dcX10_init_19
set_option maxHeartbeats 20000000 in
theorem ct_Faults   : jn_J l D cA (fun _ => True) a z 1 2 0 (0) RX1 cX1_init 1 0 (lv_args 0 (.ref a :: [])) [] [(a, .inr (1, [.int 0, .int 0]))] 0 0 (fun fs news => fs = [.int 0, .int 0] ∧ news = []) := by
  show jn_J l D cA (fun _ => True) a z 1 2 0 (0) RX1 cX1_init 1 0 [(0, .ref a)] [] _ 0 0 _
  refine jn_aload_n (x := a) dcX1_init_0 (List.mem_of_getElem? (i := 0) rfl) ?_
  refine jn_obj (ja_m (ck_tb_in (p := 4960) (by decide +kernel)) rfl) jo_i jo_c (by decide) (Nat.le_of_ble_eq_true rfl) dcX1_init_1 ?_
  exact jn_ret (fs := [.int 0, .int 0]) (news := []) rfl ⟨rfl, rfl⟩ (Nat.le_of_ble_eq_true rfl) (Nat.le_of_ble_eq_true rfl) dcX1_init_4
set_option maxHeartbeats 20000000 in
theorem ct_Judge {p1 p2 : Nat}  : jn_J l D cA (fun _ => True) a z 3 2 0 (0) RX3 cX3_init 3 0 (lv_args 0 (.ref a :: [.ref p1, .ref p2])) [] [(a, .inr (3, [.null, .null, .int 0]))] 0 0 (fun fs news => fs = [.ref p1, .ref p2, .int 0] ∧ news = []) := by
  show jn_J l D cA (fun _ => True) a z 3 2 0 (0) RX3 cX3_init 3 0 [(0, .ref a), (1, .ref p1), (2, .ref p2)] [] _ 0 0 _
  refine jn_aload_n (x := a) dcX3_init_0 (List.mem_of_getElem? (i := 0) rfl) ?_
  refine jn_obj (ja_m (ck_tb_in (p := 5188) (by decide +kernel)) rfl) jo_i jo_c (by decide) (Nat.le_of_ble_eq_true rfl) dcX3_init_1 ?_
  refine jn_aload_n (x := a) dcX3_init_4 (List.mem_of_getElem? (i := 0) rfl) ?_
  refine jn_aload_n (x := p1) dcX3_init_5 (List.mem_of_getElem? (i := 1) rfl) ?_
  refine jn_putF (q0 := 0) (cj := 3) (N := 3) (C := RX3) (T := TX3) (j := 0) tyX3 cl_in3 tyX3_ok nmX3 rfl rfl (by decide) (ja_m (ck_tb_in (p := 5189) (by decide +kernel)) rfl) rfl rfl rfl rfl (Nat.le_of_ble_eq_true rfl) dcX3_init_6 ?_
  refine jn_at [(a, .inr (3, [.ref p1, .null, .int 0]))] rfl ?_
  refine jn_aload_n (x := a) dcX3_init_9 (List.mem_of_getElem? (i := 0) rfl) ?_
  refine jn_aload_n (x := p2) dcX3_init_10 (List.mem_of_getElem? (i := 2) rfl) ?_
  refine jn_putF (q0 := 0) (cj := 3) (N := 3) (C := RX3) (T := TX3) (j := 1) tyX3 cl_in3 tyX3_ok nmX3 rfl rfl (by decide) (ja_m (ck_tb_in (p := 5190) (by decide +kernel)) rfl) rfl rfl rfl rfl (Nat.le_of_ble_eq_true rfl) dcX3_init_11 ?_
  refine jn_at [(a, .inr (3, [.ref p1, .ref p2, .int 0]))] rfl ?_
  exact jn_ret (fs := [.ref p1, .ref p2, .int 0]) (news := []) rfl ⟨rfl, rfl⟩ (Nat.le_of_ble_eq_true rfl) (Nat.le_of_ble_eq_true rfl) dcX3_init_14
set_option maxHeartbeats 20000000 in
theorem ct_Parser {p1 p2 p3 : Nat}  : jn_J l D cA (fun _ => True) a z 5 3 2 (23) RX5 cX5_init 4 0 (lv_args 0 (.ref a :: [.ref p1, .ref p2, .ref p3])) [] [(a, .inr (5, [.null, .null, .null, .null, .int 0, .int 0, .int 0, .int 0, .int 0, .int 0, .int 0, .int 0, .int 0, .int 0, .int 0, .int 0, .int 0, .int 0, .int 0, .int 0, .int 0]))] 0 0 (fun fs news => ∃ q1 q2 : Nat, fs = [.ref p1, .ref p2, .ref p3, .ref q1, .int 0, .int 0, .int 0, .int 0, .int 0, .int 0, .int 0, .int 0, .int 0, .int 0, .int 0, .int 0, .int 0, .int 0, .int 0, .int 0, .int 0] ∧ news = [(q1, .inr (8, [.ref q2, .int 2, .int 0])), (q2, .inl (cA 0, 20, .inl (fun _ => 0)))]) := by
  show jn_J l D cA (fun _ => True) a z 5 3 2 (23) RX5 cX5_init 4 0 [(0, .ref a), (1, .ref p1), (2, .ref p2), (3, .ref p3)] [] _ 0 0 _
  refine jn_aload_n (x := a) dcX5_init_0 (List.mem_of_getElem? (i := 0) rfl) ?_
  refine jn_obj (ja_m (ck_tb_in (p := 5100) (by decide +kernel)) rfl) jo_i jo_c (by decide) (Nat.le_of_ble_eq_true rfl) dcX5_init_1 ?_
  refine jn_aload_n (x := a) dcX5_init_4 (List.mem_of_getElem? (i := 0) rfl) ?_
  refine jn_new (C := RX8) (T := TX8) (N := 3) (cj := 8) (fs := [.null, .int 0, .int 0]) tyX8 cl_in8 tyX8_ok (ja_m (ck_tb_in (p := 5101) (by decide +kernel)) rfl) (ja_m (ck_tb_in (p := 4905) (by decide +kernel)) rfl) (ja_m (ck_tb_in (p := 4867) (by decide +kernel)) rfl) rfl dfX8 (Nat.le_of_ble_eq_true rfl) (Nat.le_of_ble_eq_true rfl) dcX5_init_5 (fun q1 => ?_)
  refine jn_at [(a, .inr (5, [.null, .null, .null, .null, .int 0, .int 0, .int 0, .int 0, .int 0, .int 0, .int 0, .int 0, .int 0, .int 0, .int 0, .int 0, .int 0, .int 0, .int 0, .int 0, .int 0])), (q1, .inr (8, [.null, .int 0, .int 0]))] rfl ?_
  refine jn_dup dcX5_init_8 ?_
  refine jn_bipush (w := 10) dcX5_init_9 (by decide +kernel) ?_
  refine jn_iconst (w := 2) dcX5_init_11 (by decide +kernel) ?_
  refine jn_call (F' := fun _ => True) (y := yX8_init) (cc' := cX8_init) (nL' := 3) (i := 1) (b := q1) (vals := [.int 10, .int 2]) (nn := 2) (cj := 8) (fs := [.null, .int 0, .int 0]) (ja_m (ck_tb_in (p := 5102) (by decide +kernel)) rfl) (ja_m (ck_tb_in (p := 4907) (by decide +kernel)) rfl) (ja_m (ck_tb_in (p := 4867) (by decide +kernel)) rfl) (ja_m (ck_tb_in (p := 4908) (by decide +kernel)) rfl) (by decide +kernel) (by decide +kernel) rfl rfl (by decide) (by decide) (Nat.le_of_ble_eq_true rfl) (fun _ _ _ _ _ => trivial) (fun _ _ _ _ _ _ _ _ _ => trivial) rfl (fun z9 h9 => ct_Table (l := l) (D := D) (cA := cA) (a := q1) (z := z9) (mo := 10) (wi := 2) (N := 20) (by decide) (by decide) (by decide) (by decide) (by decide)) (Nat.le_of_ble_eq_true rfl) (Nat.le_of_ble_eq_true rfl) (Nat.le_of_ble_eq_true rfl) dcX5_init_12 (fun fs9 news9 hq9 => ?_)
  obtain ⟨q2, rfl, rfl⟩ := hq9
  refine jn_at [(a, .inr (5, [.null, .null, .null, .null, .int 0, .int 0, .int 0, .int 0, .int 0, .int 0, .int 0, .int 0, .int 0, .int 0, .int 0, .int 0, .int 0, .int 0, .int 0, .int 0, .int 0])), (q1, .inr (8, [.ref q2, .int 2, .int 0])), (q2, .inl (cA 0, 20, .inl (fun _ => 0)))] rfl ?_
  refine jn_putF (q0 := 0) (cj := 5) (N := 21) (C := RX5) (T := TX5) (j := 3) tyX5 cl_in5 tyX5_ok nmX5 rfl rfl (by decide) (ja_m (ck_tb_in (p := 5122) (by decide +kernel)) rfl) rfl rfl rfl rfl (Nat.le_of_ble_eq_true rfl) dcX5_init_15 ?_
  refine jn_at [(a, .inr (5, [.null, .null, .null, .ref q1, .int 0, .int 0, .int 0, .int 0, .int 0, .int 0, .int 0, .int 0, .int 0, .int 0, .int 0, .int 0, .int 0, .int 0, .int 0, .int 0, .int 0])), (q1, .inr (8, [.ref q2, .int 2, .int 0])), (q2, .inl (cA 0, 20, .inl (fun _ => 0)))] rfl ?_
  refine jn_aload_n (x := a) dcX5_init_18 (List.mem_of_getElem? (i := 0) rfl) ?_
  refine jn_aload_n (x := p1) dcX5_init_19 (List.mem_of_getElem? (i := 1) rfl) ?_
  refine jn_putF (q0 := 0) (cj := 5) (N := 21) (C := RX5) (T := TX5) (j := 0) tyX5 cl_in5 tyX5_ok nmX5 rfl rfl (by decide) (ja_m (ck_tb_in (p := 5103) (by decide +kernel)) rfl) rfl rfl rfl rfl (Nat.le_of_ble_eq_true rfl) dcX5_init_20 ?_
  refine jn_at [(a, .inr (5, [.ref p1, .null, .null, .ref q1, .int 0, .int 0, .int 0, .int 0, .int 0, .int 0, .int 0, .int 0, .int 0, .int 0, .int 0, .int 0, .int 0, .int 0, .int 0, .int 0, .int 0])), (q1, .inr (8, [.ref q2, .int 2, .int 0])), (q2, .inl (cA 0, 20, .inl (fun _ => 0)))] rfl ?_
  refine jn_aload_n (x := a) dcX5_init_23 (List.mem_of_getElem? (i := 0) rfl) ?_
  refine jn_aload_n (x := p2) dcX5_init_24 (List.mem_of_getElem? (i := 2) rfl) ?_
  refine jn_putF (q0 := 0) (cj := 5) (N := 21) (C := RX5) (T := TX5) (j := 1) tyX5 cl_in5 tyX5_ok nmX5 rfl rfl (by decide) (ja_m (ck_tb_in (p := 5120) (by decide +kernel)) rfl) rfl rfl rfl rfl (Nat.le_of_ble_eq_true rfl) dcX5_init_25 ?_
  refine jn_at [(a, .inr (5, [.ref p1, .ref p2, .null, .ref q1, .int 0, .int 0, .int 0, .int 0, .int 0, .int 0, .int 0, .int 0, .int 0, .int 0, .int 0, .int 0, .int 0, .int 0, .int 0, .int 0, .int 0])), (q1, .inr (8, [.ref q2, .int 2, .int 0])), (q2, .inl (cA 0, 20, .inl (fun _ => 0)))] rfl ?_
  refine jn_aload_n (x := a) dcX5_init_28 (List.mem_of_getElem? (i := 0) rfl) ?_
  refine jn_aload_n (x := p3) dcX5_init_29 (List.mem_of_getElem? (i := 3) rfl) ?_
  refine jn_putF (q0 := 0) (cj := 5) (N := 21) (C := RX5) (T := TX5) (j := 2) tyX5 cl_in5 tyX5_ok nmX5 rfl rfl (by decide) (ja_m (ck_tb_in (p := 5121) (by decide +kernel)) rfl) rfl rfl rfl rfl (Nat.le_of_ble_eq_true rfl) dcX5_init_30 ?_
  refine jn_at [(a, .inr (5, [.ref p1, .ref p2, .ref p3, .ref q1, .int 0, .int 0, .int 0, .int 0, .int 0, .int 0, .int 0, .int 0, .int 0, .int 0, .int 0, .int 0, .int 0, .int 0, .int 0, .int 0, .int 0])), (q1, .inr (8, [.ref q2, .int 2, .int 0])), (q2, .inl (cA 0, 20, .inl (fun _ => 0)))] rfl ?_
  exact jn_ret (fs := [.ref p1, .ref p2, .ref p3, .ref q1, .int 0, .int 0, .int 0, .int 0, .int 0, .int 0, .int 0, .int 0, .int 0, .int 0, .int 0, .int 0, .int 0, .int 0, .int 0, .int 0, .int 0]) (news := [(q1, .inr (8, [.ref q2, .int 2, .int 0])), (q2, .inl (cA 0, 20, .inl (fun _ => 0)))]) rfl ⟨q1, q2, rfl, rfl⟩ (Nat.le_of_ble_eq_true rfl) (Nat.le_of_ble_eq_true rfl) dcX5_init_33
set_option maxHeartbeats 20000000 in
theorem ct_Ahead {p1 p2 p3 : Nat}  : jn_J l D cA (fun _ => True) a z 0 3 3 (11803) RX0 cX0_init 4 0 (lv_args 0 (.ref a :: [.ref p1, .ref p2, .ref p3])) [] [(a, .inr (0, [.null, .null, .null, .null, .null, .int 0]))] 0 0 (fun fs news => ∃ q1 q2 q3 : Nat, fs = [.ref p1, .ref p2, .ref p3, .ref q1, .ref q2, .int 0] ∧ news = [(q1, .inl (cA 0, 7000, .inl (fun _ => 0))), (q2, .inr (8, [.ref q3, .int 1, .int 0])), (q3, .inl (cA 0, 4800, .inl (fun _ => 0)))]) := by
  show jn_J l D cA (fun _ => True) a z 0 3 3 (11803) RX0 cX0_init 4 0 [(0, .ref a), (1, .ref p1), (2, .ref p2), (3, .ref p3)] [] _ 0 0 _
  refine jn_aload_n (x := a) dcX0_init_0 (List.mem_of_getElem? (i := 0) rfl) ?_
  refine jn_obj (ja_m (ck_tb_in (p := 5204) (by decide +kernel)) rfl) jo_i jo_c (by decide) (Nat.le_of_ble_eq_true rfl) dcX0_init_1 ?_
  refine jn_aload_n (x := a) dcX0_init_4 (List.mem_of_getElem? (i := 0) rfl) ?_
  refine jn_sipush (w := 7000) dcX0_init_5 (by decide +kernel) ?_
  refine jn_newI (v := 7000) (N := 7000) (by decide) (by decide) (by decide) (Nat.le_of_ble_eq_true rfl) (Nat.le_of_ble_eq_true rfl) dcX0_init_8 (fun q1 => ?_)
  refine jn_at [(a, .inr (0, [.null, .null, .null, .null, .null, .int 0])), (q1, .inl (cA 0, 7000, .inl (fun _ => 0)))] rfl ?_
  refine jn_putF (q0 := 0) (cj := 0) (N := 6) (C := RX0) (T := TX0) (j := 3) tyX0 cl_in0 tyX0_ok nmX0 rfl rfl (by decide) (ja_m (ck_tb_in (p := 5210) (by decide +kernel)) rfl) rfl rfl rfl rfl (Nat.le_of_ble_eq_true rfl) dcX0_init_10 ?_
  refine jn_at [(a, .inr (0, [.null, .null, .null, .ref q1, .null, .int 0])), (q1, .inl (cA 0, 7000, .inl (fun _ => 0)))] rfl ?_
  refine jn_aload_n (x := a) dcX0_init_13 (List.mem_of_getElem? (i := 0) rfl) ?_
  refine jn_new (C := RX8) (T := TX8) (N := 3) (cj := 8) (fs := [.null, .int 0, .int 0]) tyX8 cl_in8 tyX8_ok (ja_m (ck_tb_in (p := 5205) (by decide +kernel)) rfl) (ja_m (ck_tb_in (p := 4905) (by decide +kernel)) rfl) (ja_m (ck_tb_in (p := 4867) (by decide +kernel)) rfl) rfl dfX8 (Nat.le_of_ble_eq_true rfl) (Nat.le_of_ble_eq_true rfl) dcX0_init_14 (fun q2 => ?_)
  refine jn_at [(a, .inr (0, [.null, .null, .null, .ref q1, .null, .int 0])), (q1, .inl (cA 0, 7000, .inl (fun _ => 0))), (q2, .inr (8, [.null, .int 0, .int 0]))] rfl ?_
  refine jn_dup dcX0_init_17 ?_
  refine jn_sipush (w := 4800) dcX0_init_18 (by decide +kernel) ?_
  refine jn_iconst (w := 1) dcX0_init_21 (by decide +kernel) ?_
  refine jn_call (F' := fun _ => True) (y := yX8_init) (cc' := cX8_init) (nL' := 3) (i := 2) (b := q2) (vals := [.int 4800, .int 1]) (nn := 2) (cj := 8) (fs := [.null, .int 0, .int 0]) (ja_m (ck_tb_in (p := 5206) (by decide +kernel)) rfl) (ja_m (ck_tb_in (p := 4907) (by decide +kernel)) rfl) (ja_m (ck_tb_in (p := 4867) (by decide +kernel)) rfl) (ja_m (ck_tb_in (p := 4908) (by decide +kernel)) rfl) (by decide +kernel) (by decide +kernel) rfl rfl (by decide) (by decide) (Nat.le_of_ble_eq_true rfl) (fun _ _ _ _ _ => trivial) (fun _ _ _ _ _ _ _ _ _ => trivial) rfl (fun z9 h9 => ct_Table (l := l) (D := D) (cA := cA) (a := q2) (z := z9) (mo := 4800) (wi := 1) (N := 4800) (by decide) (by decide) (by decide) (by decide) (by decide)) (Nat.le_of_ble_eq_true rfl) (Nat.le_of_ble_eq_true rfl) (Nat.le_of_ble_eq_true rfl) dcX0_init_22 (fun fs9 news9 hq9 => ?_)
  obtain ⟨q3, rfl, rfl⟩ := hq9
  refine jn_at [(a, .inr (0, [.null, .null, .null, .ref q1, .null, .int 0])), (q1, .inl (cA 0, 7000, .inl (fun _ => 0))), (q2, .inr (8, [.ref q3, .int 1, .int 0])), (q3, .inl (cA 0, 4800, .inl (fun _ => 0)))] rfl ?_
  refine jn_putF (q0 := 0) (cj := 0) (N := 6) (C := RX0) (T := TX0) (j := 4) tyX0 cl_in0 tyX0_ok nmX0 rfl rfl (by decide) (ja_m (ck_tb_in (p := 5211) (by decide +kernel)) rfl) rfl rfl rfl rfl (Nat.le_of_ble_eq_true rfl) dcX0_init_25 ?_
  refine jn_at [(a, .inr (0, [.null, .null, .null, .ref q1, .ref q2, .int 0])), (q1, .inl (cA 0, 7000, .inl (fun _ => 0))), (q2, .inr (8, [.ref q3, .int 1, .int 0])), (q3, .inl (cA 0, 4800, .inl (fun _ => 0)))] rfl ?_
  refine jn_aload_n (x := a) dcX0_init_28 (List.mem_of_getElem? (i := 0) rfl) ?_
  refine jn_aload_n (x := p1) dcX0_init_29 (List.mem_of_getElem? (i := 1) rfl) ?_
  refine jn_putF (q0 := 0) (cj := 0) (N := 6) (C := RX0) (T := TX0) (j := 0) tyX0 cl_in0 tyX0_ok nmX0 rfl rfl (by decide) (ja_m (ck_tb_in (p := 5207) (by decide +kernel)) rfl) rfl rfl rfl rfl (Nat.le_of_ble_eq_true rfl) dcX0_init_30 ?_
  refine jn_at [(a, .inr (0, [.ref p1, .null, .null, .ref q1, .ref q2, .int 0])), (q1, .inl (cA 0, 7000, .inl (fun _ => 0))), (q2, .inr (8, [.ref q3, .int 1, .int 0])), (q3, .inl (cA 0, 4800, .inl (fun _ => 0)))] rfl ?_
  refine jn_aload_n (x := a) dcX0_init_33 (List.mem_of_getElem? (i := 0) rfl) ?_
  refine jn_aload_n (x := p2) dcX0_init_34 (List.mem_of_getElem? (i := 2) rfl) ?_
  refine jn_putF (q0 := 0) (cj := 0) (N := 6) (C := RX0) (T := TX0) (j := 1) tyX0 cl_in0 tyX0_ok nmX0 rfl rfl (by decide) (ja_m (ck_tb_in (p := 5208) (by decide +kernel)) rfl) rfl rfl rfl rfl (Nat.le_of_ble_eq_true rfl) dcX0_init_35 ?_
  refine jn_at [(a, .inr (0, [.ref p1, .ref p2, .null, .ref q1, .ref q2, .int 0])), (q1, .inl (cA 0, 7000, .inl (fun _ => 0))), (q2, .inr (8, [.ref q3, .int 1, .int 0])), (q3, .inl (cA 0, 4800, .inl (fun _ => 0)))] rfl ?_
  refine jn_aload_n (x := a) dcX0_init_38 (List.mem_of_getElem? (i := 0) rfl) ?_
  refine jn_aload_n (x := p3) dcX0_init_39 (List.mem_of_getElem? (i := 3) rfl) ?_
  refine jn_putF (q0 := 0) (cj := 0) (N := 6) (C := RX0) (T := TX0) (j := 2) tyX0 cl_in0 tyX0_ok nmX0 rfl rfl (by decide) (ja_m (ck_tb_in (p := 5209) (by decide +kernel)) rfl) rfl rfl rfl rfl (Nat.le_of_ble_eq_true rfl) dcX0_init_40 ?_
  refine jn_at [(a, .inr (0, [.ref p1, .ref p2, .ref p3, .ref q1, .ref q2, .int 0])), (q1, .inl (cA 0, 7000, .inl (fun _ => 0))), (q2, .inr (8, [.ref q3, .int 1, .int 0])), (q3, .inl (cA 0, 4800, .inl (fun _ => 0)))] rfl ?_
  exact jn_ret (fs := [.ref p1, .ref p2, .ref p3, .ref q1, .ref q2, .int 0]) (news := [(q1, .inl (cA 0, 7000, .inl (fun _ => 0))), (q2, .inr (8, [.ref q3, .int 1, .int 0])), (q3, .inl (cA 0, 4800, .inl (fun _ => 0)))]) rfl ⟨q1, q2, q3, rfl, rfl⟩ (Nat.le_of_ble_eq_true rfl) (Nat.le_of_ble_eq_true rfl) dcX0_init_43
set_option maxHeartbeats 20000000 in
theorem ct_Store {p1 : Nat}  : jn_J l D cA (fun _ => True) a z 7 3 11 (45893) RX7 cX7_init 2 0 (lv_args 0 (.ref a :: [.ref p1])) [] [(a, .inr (7, [.null, .null, .null, .null, .null, .null, .null, .int 0, .int 0, .int 0, .int 0]))] 0 0 (fun fs news => ∃ q1 q2 q3 q4 q5 q6 q7 q8 q9 q10 q11 : Nat, fs = [.ref p1, .ref q1, .ref q3, .ref q5, .ref q7, .ref q8, .ref q10, .int 0, .int 0, .int 0, .int 0] ∧ news = [(q1, .inr (8, [.ref q2, .int 1, .int 0])), (q2, .inl (cA 0, 200, .inl (fun _ => 0))), (q3, .inr (10, [.ref q4])), (q4, .inl (cA 3, 24000, .inr (.inl (fun _ => 0)))), (q5, .inr (10, [.ref q6])), (q6, .inl (cA 3, 16080, .inr (.inl (fun _ => 0)))), (q7, .inl (cA 3, 4704, .inr (.inl (fun _ => 0)))), (q8, .inr (10, [.ref q9])), (q9, .inl (cA 3, 300, .inr (.inl (fun _ => 0)))), (q10, .inr (8, [.ref q11, .int 2, .int 0])), (q11, .inl (cA 0, 600, .inl (fun _ => 0)))]) := by
  show jn_J l D cA (fun _ => True) a z 7 3 11 (45893) RX7 cX7_init 2 0 [(0, .ref a), (1, .ref p1)] [] _ 0 0 _
  refine jn_aload_n (x := a) dcX7_init_0 (List.mem_of_getElem? (i := 0) rfl) ?_
  refine jn_obj (ja_m (ck_tb_in (p := 5232) (by decide +kernel)) rfl) jo_i jo_c (by decide) (Nat.le_of_ble_eq_true rfl) dcX7_init_1 ?_
  refine jn_aload_n (x := a) dcX7_init_4 (List.mem_of_getElem? (i := 0) rfl) ?_
  refine jn_new (C := RX8) (T := TX8) (N := 3) (cj := 8) (fs := [.null, .int 0, .int 0]) tyX8 cl_in8 tyX8_ok (ja_m (ck_tb_in (p := 5233) (by decide +kernel)) rfl) (ja_m (ck_tb_in (p := 4905) (by decide +kernel)) rfl) (ja_m (ck_tb_in (p := 4867) (by decide +kernel)) rfl) rfl dfX8 (Nat.le_of_ble_eq_true rfl) (Nat.le_of_ble_eq_true rfl) dcX7_init_5 (fun q1 => ?_)
  refine jn_at [(a, .inr (7, [.null, .null, .null, .null, .null, .null, .null, .int 0, .int 0, .int 0, .int 0])), (q1, .inr (8, [.null, .int 0, .int 0]))] rfl ?_
  refine jn_dup dcX7_init_8 ?_
  refine jn_sipush (w := 200) dcX7_init_9 (by decide +kernel) ?_
  refine jn_iconst (w := 1) dcX7_init_12 (by decide +kernel) ?_
  refine jn_call (F' := fun _ => True) (y := yX8_init) (cc' := cX8_init) (nL' := 3) (i := 1) (b := q1) (vals := [.int 200, .int 1]) (nn := 2) (cj := 8) (fs := [.null, .int 0, .int 0]) (ja_m (ck_tb_in (p := 5234) (by decide +kernel)) rfl) (ja_m (ck_tb_in (p := 4907) (by decide +kernel)) rfl) (ja_m (ck_tb_in (p := 4867) (by decide +kernel)) rfl) (ja_m (ck_tb_in (p := 4908) (by decide +kernel)) rfl) (by decide +kernel) (by decide +kernel) rfl rfl (by decide) (by decide) (Nat.le_of_ble_eq_true rfl) (fun _ _ _ _ _ => trivial) (fun _ _ _ _ _ _ _ _ _ => trivial) rfl (fun z9 h9 => ct_Table (l := l) (D := D) (cA := cA) (a := q1) (z := z9) (mo := 200) (wi := 1) (N := 200) (by decide) (by decide) (by decide) (by decide) (by decide)) (Nat.le_of_ble_eq_true rfl) (Nat.le_of_ble_eq_true rfl) (Nat.le_of_ble_eq_true rfl) dcX7_init_13 (fun fs9 news9 hq9 => ?_)
  obtain ⟨q2, rfl, rfl⟩ := hq9
  refine jn_at [(a, .inr (7, [.null, .null, .null, .null, .null, .null, .null, .int 0, .int 0, .int 0, .int 0])), (q1, .inr (8, [.ref q2, .int 1, .int 0])), (q2, .inl (cA 0, 200, .inl (fun _ => 0)))] rfl ?_
  refine jn_putF (q0 := 0) (cj := 7) (N := 11) (C := RX7) (T := TX7) (j := 1) tyX7 cl_in7 tyX7_ok nmX7 rfl rfl (by decide) (ja_m (ck_tb_in (p := 5247) (by decide +kernel)) rfl) rfl rfl rfl rfl (Nat.le_of_ble_eq_true rfl) dcX7_init_16 ?_
  refine jn_at [(a, .inr (7, [.null, .ref q1, .null, .null, .null, .null, .null, .int 0, .int 0, .int 0, .int 0])), (q1, .inr (8, [.ref q2, .int 1, .int 0])), (q2, .inl (cA 0, 200, .inl (fun _ => 0)))] rfl ?_
  refine jn_aload_n (x := a) dcX7_init_19 (List.mem_of_getElem? (i := 0) rfl) ?_
  refine jn_new (C := RX10) (T := TX10) (N := 1) (cj := 10) (fs := [.null]) tyX10 cl_in10 tyX10_ok (ja_m (ck_tb_in (p := 5235) (by decide +kernel)) rfl) (ja_m (ck_tb_in (p := 5236) (by decide +kernel)) rfl) (ja_m (ck_tb_in (p := 4875) (by decide +kernel)) rfl) rfl dfX10 (Nat.le_of_ble_eq_true rfl) (Nat.le_of_ble_eq_true rfl) dcX7_init_20 (fun q3 => ?_)
  refine jn_at [(a, .inr (7, [.null, .ref q1, .null, .null, .null, .null, .null, .int 0, .int 0, .int 0, .int 0])), (q1, .inr (8, [.ref q2, .int 1, .int 0])), (q2, .inl (cA 0, 200, .inl (fun _ => 0))), (q3, .inr (10, [.null]))] rfl ?_
  refine jn_dup dcX7_init_23 ?_
  refine jn_sipush (w := 24000) dcX7_init_24 (by decide +kernel) ?_
  refine jn_call (F' := fun _ => True) (y := yX10_init) (cc' := cX10_init) (nL' := 2) (i := 3) (b := q3) (vals := [.int 24000]) (nn := 1) (cj := 10) (fs := [.null]) (ja_m (ck_tb_in (p := 5237) (by decide +kernel)) rfl) (ja_m (ck_tb_in (p := 5238) (by decide +kernel)) rfl) (ja_m (ck_tb_in (p := 4875) (by decide +kernel)) rfl) (ja_m (ck_tb_in (p := 5239) (by decide +kernel)) rfl) (by decide +kernel) (by decide +kernel) rfl rfl (by decide) (by decide) (Nat.le_of_ble_eq_true rfl) (fun _ _ _ _ _ => trivial) (fun _ _ _ _ _ _ _ _ _ => trivial) rfl (fun z9 h9 => ct_Values (l := l) (D := D) (cA := cA) (a := q3) (z := z9) (mo := 24000) (N := 24000) (by decide) (by decide) (by decide) (by decide)) (Nat.le_of_ble_eq_true rfl) (Nat.le_of_ble_eq_true rfl) (Nat.le_of_ble_eq_true rfl) dcX7_init_27 (fun fs9 news9 hq9 => ?_)
  obtain ⟨q4, rfl, rfl⟩ := hq9
  refine jn_at [(a, .inr (7, [.null, .ref q1, .null, .null, .null, .null, .null, .int 0, .int 0, .int 0, .int 0])), (q1, .inr (8, [.ref q2, .int 1, .int 0])), (q2, .inl (cA 0, 200, .inl (fun _ => 0))), (q3, .inr (10, [.ref q4])), (q4, .inl (cA 3, 24000, .inr (.inl (fun _ => 0))))] rfl ?_
  refine jn_putF (q0 := 0) (cj := 7) (N := 11) (C := RX7) (T := TX7) (j := 2) tyX7 cl_in7 tyX7_ok nmX7 rfl rfl (by decide) (ja_m (ck_tb_in (p := 5248) (by decide +kernel)) rfl) rfl rfl rfl rfl (Nat.le_of_ble_eq_true rfl) dcX7_init_30 ?_
  refine jn_at [(a, .inr (7, [.null, .ref q1, .ref q3, .null, .null, .null, .null, .int 0, .int 0, .int 0, .int 0])), (q1, .inr (8, [.ref q2, .int 1, .int 0])), (q2, .inl (cA 0, 200, .inl (fun _ => 0))), (q3, .inr (10, [.ref q4])), (q4, .inl (cA 3, 24000, .inr (.inl (fun _ => 0))))] rfl ?_
  refine jn_aload_n (x := a) dcX7_init_33 (List.mem_of_getElem? (i := 0) rfl) ?_
  refine jn_new (C := RX10) (T := TX10) (N := 1) (cj := 10) (fs := [.null]) tyX10 cl_in10 tyX10_ok (ja_m (ck_tb_in (p := 5235) (by decide +kernel)) rfl) (ja_m (ck_tb_in (p := 5236) (by decide +kernel)) rfl) (ja_m (ck_tb_in (p := 4875) (by decide +kernel)) rfl) rfl dfX10 (Nat.le_of_ble_eq_true rfl) (Nat.le_of_ble_eq_true rfl) dcX7_init_34 (fun q5 => ?_)
  refine jn_at [(a, .inr (7, [.null, .ref q1, .ref q3, .null, .null, .null, .null, .int 0, .int 0, .int 0, .int 0])), (q1, .inr (8, [.ref q2, .int 1, .int 0])), (q2, .inl (cA 0, 200, .inl (fun _ => 0))), (q3, .inr (10, [.ref q4])), (q4, .inl (cA 3, 24000, .inr (.inl (fun _ => 0)))), (q5, .inr (10, [.null]))] rfl ?_
  refine jn_dup dcX7_init_37 ?_
  refine jn_sipush (w := 16080) dcX7_init_38 (by decide +kernel) ?_
  refine jn_call (F' := fun _ => True) (y := yX10_init) (cc' := cX10_init) (nL' := 2) (i := 5) (b := q5) (vals := [.int 16080]) (nn := 1) (cj := 10) (fs := [.null]) (ja_m (ck_tb_in (p := 5237) (by decide +kernel)) rfl) (ja_m (ck_tb_in (p := 5238) (by decide +kernel)) rfl) (ja_m (ck_tb_in (p := 4875) (by decide +kernel)) rfl) (ja_m (ck_tb_in (p := 5239) (by decide +kernel)) rfl) (by decide +kernel) (by decide +kernel) rfl rfl (by decide) (by decide) (Nat.le_of_ble_eq_true rfl) (fun _ _ _ _ _ => trivial) (fun _ _ _ _ _ _ _ _ _ => trivial) rfl (fun z9 h9 => ct_Values (l := l) (D := D) (cA := cA) (a := q5) (z := z9) (mo := 16080) (N := 16080) (by decide) (by decide) (by decide) (by decide)) (Nat.le_of_ble_eq_true rfl) (Nat.le_of_ble_eq_true rfl) (Nat.le_of_ble_eq_true rfl) dcX7_init_41 (fun fs9 news9 hq9 => ?_)
  obtain ⟨q6, rfl, rfl⟩ := hq9
  refine jn_at [(a, .inr (7, [.null, .ref q1, .ref q3, .null, .null, .null, .null, .int 0, .int 0, .int 0, .int 0])), (q1, .inr (8, [.ref q2, .int 1, .int 0])), (q2, .inl (cA 0, 200, .inl (fun _ => 0))), (q3, .inr (10, [.ref q4])), (q4, .inl (cA 3, 24000, .inr (.inl (fun _ => 0)))), (q5, .inr (10, [.ref q6])), (q6, .inl (cA 3, 16080, .inr (.inl (fun _ => 0))))] rfl ?_
  refine jn_putF (q0 := 0) (cj := 7) (N := 11) (C := RX7) (T := TX7) (j := 3) tyX7 cl_in7 tyX7_ok nmX7 rfl rfl (by decide) (ja_m (ck_tb_in (p := 5249) (by decide +kernel)) rfl) rfl rfl rfl rfl (Nat.le_of_ble_eq_true rfl) dcX7_init_44 ?_
  refine jn_at [(a, .inr (7, [.null, .ref q1, .ref q3, .ref q5, .null, .null, .null, .int 0, .int 0, .int 0, .int 0])), (q1, .inr (8, [.ref q2, .int 1, .int 0])), (q2, .inl (cA 0, 200, .inl (fun _ => 0))), (q3, .inr (10, [.ref q4])), (q4, .inl (cA 3, 24000, .inr (.inl (fun _ => 0)))), (q5, .inr (10, [.ref q6])), (q6, .inl (cA 3, 16080, .inr (.inl (fun _ => 0))))] rfl ?_
  refine jn_aload_n (x := a) dcX7_init_47 (List.mem_of_getElem? (i := 0) rfl) ?_
  refine jn_sipush (w := 4704) dcX7_init_48 (by decide +kernel) ?_
  refine jn_newL (v := 4704) (N := 4704) (by decide) (by decide) (by decide) (Nat.le_of_ble_eq_true rfl) (Nat.le_of_ble_eq_true rfl) dcX7_init_51 (fun q7 => ?_)
  refine jn_at [(a, .inr (7, [.null, .ref q1, .ref q3, .ref q5, .null, .null, .null, .int 0, .int 0, .int 0, .int 0])), (q1, .inr (8, [.ref q2, .int 1, .int 0])), (q2, .inl (cA 0, 200, .inl (fun _ => 0))), (q3, .inr (10, [.ref q4])), (q4, .inl (cA 3, 24000, .inr (.inl (fun _ => 0)))), (q5, .inr (10, [.ref q6])), (q6, .inl (cA 3, 16080, .inr (.inl (fun _ => 0)))), (q7, .inl (cA 3, 4704, .inr (.inl (fun _ => 0))))] rfl ?_
  refine jn_putF (q0 := 0) (cj := 7) (N := 11) (C := RX7) (T := TX7) (j := 4) tyX7 cl_in7 tyX7_ok nmX7 rfl rfl (by decide) (ja_m (ck_tb_in (p := 5250) (by decide +kernel)) rfl) rfl rfl rfl rfl (Nat.le_of_ble_eq_true rfl) dcX7_init_53 ?_
  refine jn_at [(a, .inr (7, [.null, .ref q1, .ref q3, .ref q5, .ref q7, .null, .null, .int 0, .int 0, .int 0, .int 0])), (q1, .inr (8, [.ref q2, .int 1, .int 0])), (q2, .inl (cA 0, 200, .inl (fun _ => 0))), (q3, .inr (10, [.ref q4])), (q4, .inl (cA 3, 24000, .inr (.inl (fun _ => 0)))), (q5, .inr (10, [.ref q6])), (q6, .inl (cA 3, 16080, .inr (.inl (fun _ => 0)))), (q7, .inl (cA 3, 4704, .inr (.inl (fun _ => 0))))] rfl ?_
  refine jn_aload_n (x := a) dcX7_init_56 (List.mem_of_getElem? (i := 0) rfl) ?_
  refine jn_new (C := RX10) (T := TX10) (N := 1) (cj := 10) (fs := [.null]) tyX10 cl_in10 tyX10_ok (ja_m (ck_tb_in (p := 5235) (by decide +kernel)) rfl) (ja_m (ck_tb_in (p := 5236) (by decide +kernel)) rfl) (ja_m (ck_tb_in (p := 4875) (by decide +kernel)) rfl) rfl dfX10 (Nat.le_of_ble_eq_true rfl) (Nat.le_of_ble_eq_true rfl) dcX7_init_57 (fun q8 => ?_)
  refine jn_at [(a, .inr (7, [.null, .ref q1, .ref q3, .ref q5, .ref q7, .null, .null, .int 0, .int 0, .int 0, .int 0])), (q1, .inr (8, [.ref q2, .int 1, .int 0])), (q2, .inl (cA 0, 200, .inl (fun _ => 0))), (q3, .inr (10, [.ref q4])), (q4, .inl (cA 3, 24000, .inr (.inl (fun _ => 0)))), (q5, .inr (10, [.ref q6])), (q6, .inl (cA 3, 16080, .inr (.inl (fun _ => 0)))), (q7, .inl (cA 3, 4704, .inr (.inl (fun _ => 0)))), (q8, .inr (10, [.null]))] rfl ?_
  refine jn_dup dcX7_init_60 ?_
  refine jn_sipush (w := 300) dcX7_init_61 (by decide +kernel) ?_
  refine jn_call (F' := fun _ => True) (y := yX10_init) (cc' := cX10_init) (nL' := 2) (i := 8) (b := q8) (vals := [.int 300]) (nn := 1) (cj := 10) (fs := [.null]) (ja_m (ck_tb_in (p := 5237) (by decide +kernel)) rfl) (ja_m (ck_tb_in (p := 5238) (by decide +kernel)) rfl) (ja_m (ck_tb_in (p := 4875) (by decide +kernel)) rfl) (ja_m (ck_tb_in (p := 5239) (by decide +kernel)) rfl) (by decide +kernel) (by decide +kernel) rfl rfl (by decide) (by decide) (Nat.le_of_ble_eq_true rfl) (fun _ _ _ _ _ => trivial) (fun _ _ _ _ _ _ _ _ _ => trivial) rfl (fun z9 h9 => ct_Values (l := l) (D := D) (cA := cA) (a := q8) (z := z9) (mo := 300) (N := 300) (by decide) (by decide) (by decide) (by decide)) (Nat.le_of_ble_eq_true rfl) (Nat.le_of_ble_eq_true rfl) (Nat.le_of_ble_eq_true rfl) dcX7_init_64 (fun fs9 news9 hq9 => ?_)
  obtain ⟨q9, rfl, rfl⟩ := hq9
  refine jn_at [(a, .inr (7, [.null, .ref q1, .ref q3, .ref q5, .ref q7, .null, .null, .int 0, .int 0, .int 0, .int 0])), (q1, .inr (8, [.ref q2, .int 1, .int 0])), (q2, .inl (cA 0, 200, .inl (fun _ => 0))), (q3, .inr (10, [.ref q4])), (q4, .inl (cA 3, 24000, .inr (.inl (fun _ => 0)))), (q5, .inr (10, [.ref q6])), (q6, .inl (cA 3, 16080, .inr (.inl (fun _ => 0)))), (q7, .inl (cA 3, 4704, .inr (.inl (fun _ => 0)))), (q8, .inr (10, [.ref q9])), (q9, .inl (cA 3, 300, .inr (.inl (fun _ => 0))))] rfl ?_
  refine jn_putF (q0 := 0) (cj := 7) (N := 11) (C := RX7) (T := TX7) (j := 5) tyX7 cl_in7 tyX7_ok nmX7 rfl rfl (by decide) (ja_m (ck_tb_in (p := 5251) (by decide +kernel)) rfl) rfl rfl rfl rfl (Nat.le_of_ble_eq_true rfl) dcX7_init_67 ?_
  refine jn_at [(a, .inr (7, [.null, .ref q1, .ref q3, .ref q5, .ref q7, .ref q8, .null, .int 0, .int 0, .int 0, .int 0])), (q1, .inr (8, [.ref q2, .int 1, .int 0])), (q2, .inl (cA 0, 200, .inl (fun _ => 0))), (q3, .inr (10, [.ref q4])), (q4, .inl (cA 3, 24000, .inr (.inl (fun _ => 0)))), (q5, .inr (10, [.ref q6])), (q6, .inl (cA 3, 16080, .inr (.inl (fun _ => 0)))), (q7, .inl (cA 3, 4704, .inr (.inl (fun _ => 0)))), (q8, .inr (10, [.ref q9])), (q9, .inl (cA 3, 300, .inr (.inl (fun _ => 0))))] rfl ?_
  refine jn_aload_n (x := a) dcX7_init_70 (List.mem_of_getElem? (i := 0) rfl) ?_
  refine jn_new (C := RX8) (T := TX8) (N := 3) (cj := 8) (fs := [.null, .int 0, .int 0]) tyX8 cl_in8 tyX8_ok (ja_m (ck_tb_in (p := 5233) (by decide +kernel)) rfl) (ja_m (ck_tb_in (p := 4905) (by decide +kernel)) rfl) (ja_m (ck_tb_in (p := 4867) (by decide +kernel)) rfl) rfl dfX8 (Nat.le_of_ble_eq_true rfl) (Nat.le_of_ble_eq_true rfl) dcX7_init_71 (fun q10 => ?_)
  refine jn_at [(a, .inr (7, [.null, .ref q1, .ref q3, .ref q5, .ref q7, .ref q8, .null, .int 0, .int 0, .int 0, .int 0])), (q1, .inr (8, [.ref q2, .int 1, .int 0])), (q2, .inl (cA 0, 200, .inl (fun _ => 0))), (q3, .inr (10, [.ref q4])), (q4, .inl (cA 3, 24000, .inr (.inl (fun _ => 0)))), (q5, .inr (10, [.ref q6])), (q6, .inl (cA 3, 16080, .inr (.inl (fun _ => 0)))), (q7, .inl (cA 3, 4704, .inr (.inl (fun _ => 0)))), (q8, .inr (10, [.ref q9])), (q9, .inl (cA 3, 300, .inr (.inl (fun _ => 0)))), (q10, .inr (8, [.null, .int 0, .int 0]))] rfl ?_
  refine jn_dup dcX7_init_74 ?_
  refine jn_sipush (w := 300) dcX7_init_75 (by decide +kernel) ?_
  refine jn_iconst (w := 2) dcX7_init_78 (by decide +kernel) ?_
  refine jn_call (F' := fun _ => True) (y := yX8_init) (cc' := cX8_init) (nL' := 3) (i := 10) (b := q10) (vals := [.int 300, .int 2]) (nn := 2) (cj := 8) (fs := [.null, .int 0, .int 0]) (ja_m (ck_tb_in (p := 5234) (by decide +kernel)) rfl) (ja_m (ck_tb_in (p := 4907) (by decide +kernel)) rfl) (ja_m (ck_tb_in (p := 4867) (by decide +kernel)) rfl) (ja_m (ck_tb_in (p := 4908) (by decide +kernel)) rfl) (by decide +kernel) (by decide +kernel) rfl rfl (by decide) (by decide) (Nat.le_of_ble_eq_true rfl) (fun _ _ _ _ _ => trivial) (fun _ _ _ _ _ _ _ _ _ => trivial) rfl (fun z9 h9 => ct_Table (l := l) (D := D) (cA := cA) (a := q10) (z := z9) (mo := 300) (wi := 2) (N := 600) (by decide) (by decide) (by decide) (by decide) (by decide)) (Nat.le_of_ble_eq_true rfl) (Nat.le_of_ble_eq_true rfl) (Nat.le_of_ble_eq_true rfl) dcX7_init_79 (fun fs9 news9 hq9 => ?_)
  obtain ⟨q11, rfl, rfl⟩ := hq9
  refine jn_at [(a, .inr (7, [.null, .ref q1, .ref q3, .ref q5, .ref q7, .ref q8, .null, .int 0, .int 0, .int 0, .int 0])), (q1, .inr (8, [.ref q2, .int 1, .int 0])), (q2, .inl (cA 0, 200, .inl (fun _ => 0))), (q3, .inr (10, [.ref q4])), (q4, .inl (cA 3, 24000, .inr (.inl (fun _ => 0)))), (q5, .inr (10, [.ref q6])), (q6, .inl (cA 3, 16080, .inr (.inl (fun _ => 0)))), (q7, .inl (cA 3, 4704, .inr (.inl (fun _ => 0)))), (q8, .inr (10, [.ref q9])), (q9, .inl (cA 3, 300, .inr (.inl (fun _ => 0)))), (q10, .inr (8, [.ref q11, .int 2, .int 0])), (q11, .inl (cA 0, 600, .inl (fun _ => 0)))] rfl ?_
  refine jn_putF (q0 := 0) (cj := 7) (N := 11) (C := RX7) (T := TX7) (j := 6) tyX7 cl_in7 tyX7_ok nmX7 rfl rfl (by decide) (ja_m (ck_tb_in (p := 5252) (by decide +kernel)) rfl) rfl rfl rfl rfl (Nat.le_of_ble_eq_true rfl) dcX7_init_82 ?_
  refine jn_at [(a, .inr (7, [.null, .ref q1, .ref q3, .ref q5, .ref q7, .ref q8, .ref q10, .int 0, .int 0, .int 0, .int 0])), (q1, .inr (8, [.ref q2, .int 1, .int 0])), (q2, .inl (cA 0, 200, .inl (fun _ => 0))), (q3, .inr (10, [.ref q4])), (q4, .inl (cA 3, 24000, .inr (.inl (fun _ => 0)))), (q5, .inr (10, [.ref q6])), (q6, .inl (cA 3, 16080, .inr (.inl (fun _ => 0)))), (q7, .inl (cA 3, 4704, .inr (.inl (fun _ => 0)))), (q8, .inr (10, [.ref q9])), (q9, .inl (cA 3, 300, .inr (.inl (fun _ => 0)))), (q10, .inr (8, [.ref q11, .int 2, .int 0])), (q11, .inl (cA 0, 600, .inl (fun _ => 0)))] rfl ?_
  refine jn_aload_n (x := a) dcX7_init_85 (List.mem_of_getElem? (i := 0) rfl) ?_
  refine jn_aload_n (x := p1) dcX7_init_86 (List.mem_of_getElem? (i := 1) rfl) ?_
  refine jn_putF (q0 := 0) (cj := 7) (N := 11) (C := RX7) (T := TX7) (j := 0) tyX7 cl_in7 tyX7_ok nmX7 rfl rfl (by decide) (ja_m (ck_tb_in (p := 5246) (by decide +kernel)) rfl) rfl rfl rfl rfl (Nat.le_of_ble_eq_true rfl) dcX7_init_87 ?_
  refine jn_at [(a, .inr (7, [.ref p1, .ref q1, .ref q3, .ref q5, .ref q7, .ref q8, .ref q10, .int 0, .int 0, .int 0, .int 0])), (q1, .inr (8, [.ref q2, .int 1, .int 0])), (q2, .inl (cA 0, 200, .inl (fun _ => 0))), (q3, .inr (10, [.ref q4])), (q4, .inl (cA 3, 24000, .inr (.inl (fun _ => 0)))), (q5, .inr (10, [.ref q6])), (q6, .inl (cA 3, 16080, .inr (.inl (fun _ => 0)))), (q7, .inl (cA 3, 4704, .inr (.inl (fun _ => 0)))), (q8, .inr (10, [.ref q9])), (q9, .inl (cA 3, 300, .inr (.inl (fun _ => 0)))), (q10, .inr (8, [.ref q11, .int 2, .int 0])), (q11, .inl (cA 0, 600, .inl (fun _ => 0)))] rfl ?_
  exact jn_ret (fs := [.ref p1, .ref q1, .ref q3, .ref q5, .ref q7, .ref q8, .ref q10, .int 0, .int 0, .int 0, .int 0]) (news := [(q1, .inr (8, [.ref q2, .int 1, .int 0])), (q2, .inl (cA 0, 200, .inl (fun _ => 0))), (q3, .inr (10, [.ref q4])), (q4, .inl (cA 3, 24000, .inr (.inl (fun _ => 0)))), (q5, .inr (10, [.ref q6])), (q6, .inl (cA 3, 16080, .inr (.inl (fun _ => 0)))), (q7, .inl (cA 3, 4704, .inr (.inl (fun _ => 0)))), (q8, .inr (10, [.ref q9])), (q9, .inl (cA 3, 300, .inr (.inl (fun _ => 0)))), (q10, .inr (8, [.ref q11, .int 2, .int 0])), (q11, .inl (cA 0, 600, .inl (fun _ => 0)))]) rfl ⟨q1, q2, q3, q4, q5, q6, q7, q8, q9, q10, q11, rfl, rfl⟩ (Nat.le_of_ble_eq_true rfl) (Nat.le_of_ble_eq_true rfl) dcX7_init_90
set_option maxHeartbeats 20000000 in
theorem ct_Machine {p1 p2 p3 : Nat}  : jn_J l D cA (fun _ => True) a z 4 3 8 (5407) RX4 cX4_init 4 0 (lv_args 0 (.ref a :: [.ref p1, .ref p2, .ref p3])) [] [(a, .inr (4, [.null, .null, .null, .null, .null, .null, .null, .int 0, .int 0, .long 0, .int 0, .int 0, .int 0, .int 0, .long 0]))] 0 0 (fun fs news => ∃ q1 q2 q3 q4 q5 q6 q7 q8 : Nat, fs = [.ref p1, .ref p2, .ref p3, .ref q1, .ref q3, .ref q5, .ref q7, .int 0, .int 0, .long 0, .int 0, .int 0, .int 0, .int 0, .long 0] ∧ news = [(q1, .inr (8, [.ref q2, .int 2, .int 0])), (q2, .inl (cA 0, 4368, .inl (fun _ => 0))), (q3, .inr (8, [.ref q4, .int 7, .int 0])), (q4, .inl (cA 0, 287, .inl (fun _ => 0))), (q5, .inr (10, [.ref q6])), (q6, .inl (cA 3, 738, .inr (.inl (fun _ => 0)))), (q7, .inr (10, [.ref q8])), (q8, .inl (cA 3, 6, .inr (.inl (fun _ => 0))))]) := by
  show jn_J l D cA (fun _ => True) a z 4 3 8 (5407) RX4 cX4_init 4 0 [(0, .ref a), (1, .ref p1), (2, .ref p2), (3, .ref p3)] [] _ 0 0 _
  refine jn_aload_n (x := a) dcX4_init_0 (List.mem_of_getElem? (i := 0) rfl) ?_
  refine jn_obj (ja_m (ck_tb_in (p := 5332) (by decide +kernel)) rfl) jo_i jo_c (by decide) (Nat.le_of_ble_eq_true rfl) dcX4_init_1 ?_
  refine jn_aload_n (x := a) dcX4_init_4 (List.mem_of_getElem? (i := 0) rfl) ?_
  refine jn_new (C := RX8) (T := TX8) (N := 3) (cj := 8) (fs := [.null, .int 0, .int 0]) tyX8 cl_in8 tyX8_ok (ja_m (ck_tb_in (p := 5333) (by decide +kernel)) rfl) (ja_m (ck_tb_in (p := 4905) (by decide +kernel)) rfl) (ja_m (ck_tb_in (p := 4867) (by decide +kernel)) rfl) rfl dfX8 (Nat.le_of_ble_eq_true rfl) (Nat.le_of_ble_eq_true rfl) dcX4_init_5 (fun q1 => ?_)
  refine jn_at [(a, .inr (4, [.null, .null, .null, .null, .null, .null, .null, .int 0, .int 0, .long 0, .int 0, .int 0, .int 0, .int 0, .long 0])), (q1, .inr (8, [.null, .int 0, .int 0]))] rfl ?_
  refine jn_dup dcX4_init_8 ?_
  refine jn_sipush (w := 2184) dcX4_init_9 (by decide +kernel) ?_
  refine jn_iconst (w := 2) dcX4_init_12 (by decide +kernel) ?_
  refine jn_call (F' := fun _ => True) (y := yX8_init) (cc' := cX8_init) (nL' := 3) (i := 1) (b := q1) (vals := [.int 2184, .int 2]) (nn := 2) (cj := 8) (fs := [.null, .int 0, .int 0]) (ja_m (ck_tb_in (p := 5334) (by decide +kernel)) rfl) (ja_m (ck_tb_in (p := 4907) (by decide +kernel)) rfl) (ja_m (ck_tb_in (p := 4867) (by decide +kernel)) rfl) (ja_m (ck_tb_in (p := 4908) (by decide +kernel)) rfl) (by decide +kernel) (by decide +kernel) rfl rfl (by decide) (by decide) (Nat.le_of_ble_eq_true rfl) (fun _ _ _ _ _ => trivial) (fun _ _ _ _ _ _ _ _ _ => trivial) rfl (fun z9 h9 => ct_Table (l := l) (D := D) (cA := cA) (a := q1) (z := z9) (mo := 2184) (wi := 2) (N := 4368) (by decide) (by decide) (by decide) (by decide) (by decide)) (Nat.le_of_ble_eq_true rfl) (Nat.le_of_ble_eq_true rfl) (Nat.le_of_ble_eq_true rfl) dcX4_init_13 (fun fs9 news9 hq9 => ?_)
  obtain ⟨q2, rfl, rfl⟩ := hq9
  refine jn_at [(a, .inr (4, [.null, .null, .null, .null, .null, .null, .null, .int 0, .int 0, .long 0, .int 0, .int 0, .int 0, .int 0, .long 0])), (q1, .inr (8, [.ref q2, .int 2, .int 0])), (q2, .inl (cA 0, 4368, .inl (fun _ => 0)))] rfl ?_
  refine jn_putF (q0 := 0) (cj := 4) (N := 15) (C := RX4) (T := TX4) (j := 3) tyX4 cl_in4 tyX4_ok nmX4 rfl rfl (by decide) (ja_m (ck_tb_in (p := 5340) (by decide +kernel)) rfl) rfl rfl rfl rfl (Nat.le_of_ble_eq_true rfl) dcX4_init_16 ?_
  refine jn_at [(a, .inr (4, [.null, .null, .null, .ref q1, .null, .null, .null, .int 0, .int 0, .long 0, .int 0, .int 0, .int 0, .int 0, .long 0])), (q1, .inr (8, [.ref q2, .int 2, .int 0])), (q2, .inl (cA 0, 4368, .inl (fun _ => 0)))] rfl ?_
  refine jn_aload_n (x := a) dcX4_init_19 (List.mem_of_getElem? (i := 0) rfl) ?_
  refine jn_new (C := RX8) (T := TX8) (N := 3) (cj := 8) (fs := [.null, .int 0, .int 0]) tyX8 cl_in8 tyX8_ok (ja_m (ck_tb_in (p := 5333) (by decide +kernel)) rfl) (ja_m (ck_tb_in (p := 4905) (by decide +kernel)) rfl) (ja_m (ck_tb_in (p := 4867) (by decide +kernel)) rfl) rfl dfX8 (Nat.le_of_ble_eq_true rfl) (Nat.le_of_ble_eq_true rfl) dcX4_init_20 (fun q3 => ?_)
  refine jn_at [(a, .inr (4, [.null, .null, .null, .ref q1, .null, .null, .null, .int 0, .int 0, .long 0, .int 0, .int 0, .int 0, .int 0, .long 0])), (q1, .inr (8, [.ref q2, .int 2, .int 0])), (q2, .inl (cA 0, 4368, .inl (fun _ => 0))), (q3, .inr (8, [.null, .int 0, .int 0]))] rfl ?_
  refine jn_dup dcX4_init_23 ?_
  refine jn_bipush (w := 41) dcX4_init_24 (by decide +kernel) ?_
  refine jn_bipush (w := 7) dcX4_init_26 (by decide +kernel) ?_
  refine jn_call (F' := fun _ => True) (y := yX8_init) (cc' := cX8_init) (nL' := 3) (i := 3) (b := q3) (vals := [.int 41, .int 7]) (nn := 2) (cj := 8) (fs := [.null, .int 0, .int 0]) (ja_m (ck_tb_in (p := 5334) (by decide +kernel)) rfl) (ja_m (ck_tb_in (p := 4907) (by decide +kernel)) rfl) (ja_m (ck_tb_in (p := 4867) (by decide +kernel)) rfl) (ja_m (ck_tb_in (p := 4908) (by decide +kernel)) rfl) (by decide +kernel) (by decide +kernel) rfl rfl (by decide) (by decide) (Nat.le_of_ble_eq_true rfl) (fun _ _ _ _ _ => trivial) (fun _ _ _ _ _ _ _ _ _ => trivial) rfl (fun z9 h9 => ct_Table (l := l) (D := D) (cA := cA) (a := q3) (z := z9) (mo := 41) (wi := 7) (N := 287) (by decide) (by decide) (by decide) (by decide) (by decide)) (Nat.le_of_ble_eq_true rfl) (Nat.le_of_ble_eq_true rfl) (Nat.le_of_ble_eq_true rfl) dcX4_init_28 (fun fs9 news9 hq9 => ?_)
  obtain ⟨q4, rfl, rfl⟩ := hq9
  refine jn_at [(a, .inr (4, [.null, .null, .null, .ref q1, .null, .null, .null, .int 0, .int 0, .long 0, .int 0, .int 0, .int 0, .int 0, .long 0])), (q1, .inr (8, [.ref q2, .int 2, .int 0])), (q2, .inl (cA 0, 4368, .inl (fun _ => 0))), (q3, .inr (8, [.ref q4, .int 7, .int 0])), (q4, .inl (cA 0, 287, .inl (fun _ => 0)))] rfl ?_
  refine jn_putF (q0 := 0) (cj := 4) (N := 15) (C := RX4) (T := TX4) (j := 4) tyX4 cl_in4 tyX4_ok nmX4 rfl rfl (by decide) (ja_m (ck_tb_in (p := 5341) (by decide +kernel)) rfl) rfl rfl rfl rfl (Nat.le_of_ble_eq_true rfl) dcX4_init_31 ?_
  refine jn_at [(a, .inr (4, [.null, .null, .null, .ref q1, .ref q3, .null, .null, .int 0, .int 0, .long 0, .int 0, .int 0, .int 0, .int 0, .long 0])), (q1, .inr (8, [.ref q2, .int 2, .int 0])), (q2, .inl (cA 0, 4368, .inl (fun _ => 0))), (q3, .inr (8, [.ref q4, .int 7, .int 0])), (q4, .inl (cA 0, 287, .inl (fun _ => 0)))] rfl ?_
  refine jn_aload_n (x := a) dcX4_init_34 (List.mem_of_getElem? (i := 0) rfl) ?_
  refine jn_new (C := RX10) (T := TX10) (N := 1) (cj := 10) (fs := [.null]) tyX10 cl_in10 tyX10_ok (ja_m (ck_tb_in (p := 5335) (by decide +kernel)) rfl) (ja_m (ck_tb_in (p := 5236) (by decide +kernel)) rfl) (ja_m (ck_tb_in (p := 4875) (by decide +kernel)) rfl) rfl dfX10 (Nat.le_of_ble_eq_true rfl) (Nat.le_of_ble_eq_true rfl) dcX4_init_35 (fun q5 => ?_)
  refine jn_at [(a, .inr (4, [.null, .null, .null, .ref q1, .ref q3, .null, .null, .int 0, .int 0, .long 0, .int 0, .int 0, .int 0, .int 0, .long 0])), (q1, .inr (8, [.ref q2, .int 2, .int 0])), (q2, .inl (cA 0, 4368, .inl (fun _ => 0))), (q3, .inr (8, [.ref q4, .int 7, .int 0])), (q4, .inl (cA 0, 287, .inl (fun _ => 0))), (q5, .inr (10, [.null]))] rfl ?_
  refine jn_dup dcX4_init_38 ?_
  refine jn_sipush (w := 738) dcX4_init_39 (by decide +kernel) ?_
  refine jn_call (F' := fun _ => True) (y := yX10_init) (cc' := cX10_init) (nL' := 2) (i := 5) (b := q5) (vals := [.int 738]) (nn := 1) (cj := 10) (fs := [.null]) (ja_m (ck_tb_in (p := 5336) (by decide +kernel)) rfl) (ja_m (ck_tb_in (p := 5238) (by decide +kernel)) rfl) (ja_m (ck_tb_in (p := 4875) (by decide +kernel)) rfl) (ja_m (ck_tb_in (p := 5239) (by decide +kernel)) rfl) (by decide +kernel) (by decide +kernel) rfl rfl (by decide) (by decide) (Nat.le_of_ble_eq_true rfl) (fun _ _ _ _ _ => trivial) (fun _ _ _ _ _ _ _ _ _ => trivial) rfl (fun z9 h9 => ct_Values (l := l) (D := D) (cA := cA) (a := q5) (z := z9) (mo := 738) (N := 738) (by decide) (by decide) (by decide) (by decide)) (Nat.le_of_ble_eq_true rfl) (Nat.le_of_ble_eq_true rfl) (Nat.le_of_ble_eq_true rfl) dcX4_init_42 (fun fs9 news9 hq9 => ?_)
  obtain ⟨q6, rfl, rfl⟩ := hq9
  refine jn_at [(a, .inr (4, [.null, .null, .null, .ref q1, .ref q3, .null, .null, .int 0, .int 0, .long 0, .int 0, .int 0, .int 0, .int 0, .long 0])), (q1, .inr (8, [.ref q2, .int 2, .int 0])), (q2, .inl (cA 0, 4368, .inl (fun _ => 0))), (q3, .inr (8, [.ref q4, .int 7, .int 0])), (q4, .inl (cA 0, 287, .inl (fun _ => 0))), (q5, .inr (10, [.ref q6])), (q6, .inl (cA 3, 738, .inr (.inl (fun _ => 0))))] rfl ?_
  refine jn_putF (q0 := 0) (cj := 4) (N := 15) (C := RX4) (T := TX4) (j := 5) tyX4 cl_in4 tyX4_ok nmX4 rfl rfl (by decide) (ja_m (ck_tb_in (p := 5342) (by decide +kernel)) rfl) rfl rfl rfl rfl (Nat.le_of_ble_eq_true rfl) dcX4_init_45 ?_
  refine jn_at [(a, .inr (4, [.null, .null, .null, .ref q1, .ref q3, .ref q5, .null, .int 0, .int 0, .long 0, .int 0, .int 0, .int 0, .int 0, .long 0])), (q1, .inr (8, [.ref q2, .int 2, .int 0])), (q2, .inl (cA 0, 4368, .inl (fun _ => 0))), (q3, .inr (8, [.ref q4, .int 7, .int 0])), (q4, .inl (cA 0, 287, .inl (fun _ => 0))), (q5, .inr (10, [.ref q6])), (q6, .inl (cA 3, 738, .inr (.inl (fun _ => 0))))] rfl ?_
  refine jn_aload_n (x := a) dcX4_init_48 (List.mem_of_getElem? (i := 0) rfl) ?_
  refine jn_new (C := RX10) (T := TX10) (N := 1) (cj := 10) (fs := [.null]) tyX10 cl_in10 tyX10_ok (ja_m (ck_tb_in (p := 5335) (by decide +kernel)) rfl) (ja_m (ck_tb_in (p := 5236) (by decide +kernel)) rfl) (ja_m (ck_tb_in (p := 4875) (by decide +kernel)) rfl) rfl dfX10 (Nat.le_of_ble_eq_true rfl) (Nat.le_of_ble_eq_true rfl) dcX4_init_49 (fun q7 => ?_)
  refine jn_at [(a, .inr (4, [.null, .null, .null, .ref q1, .ref q3, .ref q5, .null, .int 0, .int 0, .long 0, .int 0, .int 0, .int 0, .int 0, .long 0])), (q1, .inr (8, [.ref q2, .int 2, .int 0])), (q2, .inl (cA 0, 4368, .inl (fun _ => 0))), (q3, .inr (8, [.ref q4, .int 7, .int 0])), (q4, .inl (cA 0, 287, .inl (fun _ => 0))), (q5, .inr (10, [.ref q6])), (q6, .inl (cA 3, 738, .inr (.inl (fun _ => 0)))), (q7, .inr (10, [.null]))] rfl ?_
  refine jn_dup dcX4_init_52 ?_
  refine jn_bipush (w := 6) dcX4_init_53 (by decide +kernel) ?_
  refine jn_call (F' := fun _ => True) (y := yX10_init) (cc' := cX10_init) (nL' := 2) (i := 7) (b := q7) (vals := [.int 6]) (nn := 1) (cj := 10) (fs := [.null]) (ja_m (ck_tb_in (p := 5336) (by decide +kernel)) rfl) (ja_m (ck_tb_in (p := 5238) (by decide +kernel)) rfl) (ja_m (ck_tb_in (p := 4875) (by decide +kernel)) rfl) (ja_m (ck_tb_in (p := 5239) (by decide +kernel)) rfl) (by decide +kernel) (by decide +kernel) rfl rfl (by decide) (by decide) (Nat.le_of_ble_eq_true rfl) (fun _ _ _ _ _ => trivial) (fun _ _ _ _ _ _ _ _ _ => trivial) rfl (fun z9 h9 => ct_Values (l := l) (D := D) (cA := cA) (a := q7) (z := z9) (mo := 6) (N := 6) (by decide) (by decide) (by decide) (by decide)) (Nat.le_of_ble_eq_true rfl) (Nat.le_of_ble_eq_true rfl) (Nat.le_of_ble_eq_true rfl) dcX4_init_55 (fun fs9 news9 hq9 => ?_)
  obtain ⟨q8, rfl, rfl⟩ := hq9
  refine jn_at [(a, .inr (4, [.null, .null, .null, .ref q1, .ref q3, .ref q5, .null, .int 0, .int 0, .long 0, .int 0, .int 0, .int 0, .int 0, .long 0])), (q1, .inr (8, [.ref q2, .int 2, .int 0])), (q2, .inl (cA 0, 4368, .inl (fun _ => 0))), (q3, .inr (8, [.ref q4, .int 7, .int 0])), (q4, .inl (cA 0, 287, .inl (fun _ => 0))), (q5, .inr (10, [.ref q6])), (q6, .inl (cA 3, 738, .inr (.inl (fun _ => 0)))), (q7, .inr (10, [.ref q8])), (q8, .inl (cA 3, 6, .inr (.inl (fun _ => 0))))] rfl ?_
  refine jn_putF (q0 := 0) (cj := 4) (N := 15) (C := RX4) (T := TX4) (j := 6) tyX4 cl_in4 tyX4_ok nmX4 rfl rfl (by decide) (ja_m (ck_tb_in (p := 5343) (by decide +kernel)) rfl) rfl rfl rfl rfl (Nat.le_of_ble_eq_true rfl) dcX4_init_58 ?_
  refine jn_at [(a, .inr (4, [.null, .null, .null, .ref q1, .ref q3, .ref q5, .ref q7, .int 0, .int 0, .long 0, .int 0, .int 0, .int 0, .int 0, .long 0])), (q1, .inr (8, [.ref q2, .int 2, .int 0])), (q2, .inl (cA 0, 4368, .inl (fun _ => 0))), (q3, .inr (8, [.ref q4, .int 7, .int 0])), (q4, .inl (cA 0, 287, .inl (fun _ => 0))), (q5, .inr (10, [.ref q6])), (q6, .inl (cA 3, 738, .inr (.inl (fun _ => 0)))), (q7, .inr (10, [.ref q8])), (q8, .inl (cA 3, 6, .inr (.inl (fun _ => 0))))] rfl ?_
  refine jn_aload_n (x := a) dcX4_init_61 (List.mem_of_getElem? (i := 0) rfl) ?_
  refine jn_aload_n (x := p1) dcX4_init_62 (List.mem_of_getElem? (i := 1) rfl) ?_
  refine jn_putF (q0 := 0) (cj := 4) (N := 15) (C := RX4) (T := TX4) (j := 0) tyX4 cl_in4 tyX4_ok nmX4 rfl rfl (by decide) (ja_m (ck_tb_in (p := 5337) (by decide +kernel)) rfl) rfl rfl rfl rfl (Nat.le_of_ble_eq_true rfl) dcX4_init_63 ?_
  refine jn_at [(a, .inr (4, [.ref p1, .null, .null, .ref q1, .ref q3, .ref q5, .ref q7, .int 0, .int 0, .long 0, .int 0, .int 0, .int 0, .int 0, .long 0])), (q1, .inr (8, [.ref q2, .int 2, .int 0])), (q2, .inl (cA 0, 4368, .inl (fun _ => 0))), (q3, .inr (8, [.ref q4, .int 7, .int 0])), (q4, .inl (cA 0, 287, .inl (fun _ => 0))), (q5, .inr (10, [.ref q6])), (q6, .inl (cA 3, 738, .inr (.inl (fun _ => 0)))), (q7, .inr (10, [.ref q8])), (q8, .inl (cA 3, 6, .inr (.inl (fun _ => 0))))] rfl ?_
  refine jn_aload_n (x := a) dcX4_init_66 (List.mem_of_getElem? (i := 0) rfl) ?_
  refine jn_aload_n (x := p2) dcX4_init_67 (List.mem_of_getElem? (i := 2) rfl) ?_
  refine jn_putF (q0 := 0) (cj := 4) (N := 15) (C := RX4) (T := TX4) (j := 1) tyX4 cl_in4 tyX4_ok nmX4 rfl rfl (by decide) (ja_m (ck_tb_in (p := 5338) (by decide +kernel)) rfl) rfl rfl rfl rfl (Nat.le_of_ble_eq_true rfl) dcX4_init_68 ?_
  refine jn_at [(a, .inr (4, [.ref p1, .ref p2, .null, .ref q1, .ref q3, .ref q5, .ref q7, .int 0, .int 0, .long 0, .int 0, .int 0, .int 0, .int 0, .long 0])), (q1, .inr (8, [.ref q2, .int 2, .int 0])), (q2, .inl (cA 0, 4368, .inl (fun _ => 0))), (q3, .inr (8, [.ref q4, .int 7, .int 0])), (q4, .inl (cA 0, 287, .inl (fun _ => 0))), (q5, .inr (10, [.ref q6])), (q6, .inl (cA 3, 738, .inr (.inl (fun _ => 0)))), (q7, .inr (10, [.ref q8])), (q8, .inl (cA 3, 6, .inr (.inl (fun _ => 0))))] rfl ?_
  refine jn_aload_n (x := a) dcX4_init_71 (List.mem_of_getElem? (i := 0) rfl) ?_
  refine jn_aload_n (x := p3) dcX4_init_72 (List.mem_of_getElem? (i := 3) rfl) ?_
  refine jn_putF (q0 := 0) (cj := 4) (N := 15) (C := RX4) (T := TX4) (j := 2) tyX4 cl_in4 tyX4_ok nmX4 rfl rfl (by decide) (ja_m (ck_tb_in (p := 5339) (by decide +kernel)) rfl) rfl rfl rfl rfl (Nat.le_of_ble_eq_true rfl) dcX4_init_73 ?_
  refine jn_at [(a, .inr (4, [.ref p1, .ref p2, .ref p3, .ref q1, .ref q3, .ref q5, .ref q7, .int 0, .int 0, .long 0, .int 0, .int 0, .int 0, .int 0, .long 0])), (q1, .inr (8, [.ref q2, .int 2, .int 0])), (q2, .inl (cA 0, 4368, .inl (fun _ => 0))), (q3, .inr (8, [.ref q4, .int 7, .int 0])), (q4, .inl (cA 0, 287, .inl (fun _ => 0))), (q5, .inr (10, [.ref q6])), (q6, .inl (cA 3, 738, .inr (.inl (fun _ => 0)))), (q7, .inr (10, [.ref q8])), (q8, .inl (cA 3, 6, .inr (.inl (fun _ => 0))))] rfl ?_
  exact jn_ret (fs := [.ref p1, .ref p2, .ref p3, .ref q1, .ref q3, .ref q5, .ref q7, .int 0, .int 0, .long 0, .int 0, .int 0, .int 0, .int 0, .long 0]) (news := [(q1, .inr (8, [.ref q2, .int 2, .int 0])), (q2, .inl (cA 0, 4368, .inl (fun _ => 0))), (q3, .inr (8, [.ref q4, .int 7, .int 0])), (q4, .inl (cA 0, 287, .inl (fun _ => 0))), (q5, .inr (10, [.ref q6])), (q6, .inl (cA 3, 738, .inr (.inl (fun _ => 0)))), (q7, .inr (10, [.ref q8])), (q8, .inl (cA 3, 6, .inr (.inl (fun _ => 0))))]) rfl ⟨q1, q2, q3, q4, q5, q6, q7, q8, rfl, rfl⟩ (Nat.le_of_ble_eq_true rfl) (Nat.le_of_ble_eq_true rfl) dcX4_init_76
set_option maxHeartbeats 20000000 in
theorem ct_Holder {p1 p2 p3 : Nat}  : jn_J l D cA (fun _ => True) a z 2 3 9 (15054) RX2 cX2_init 4 0 (lv_args 0 (.ref a :: [.ref p1, .ref p2, .ref p3])) [] [(a, .inr (2, [.null, .null, .null, .null, .null, .null, .null, .null, .int 0, .int 0, .int 0, .int 0]))] 0 0 (fun fs news => ∃ q1 q2 q3 q4 q5 q6 q7 q8 q9 : Nat, fs = [.ref p1, .ref p2, .ref p3, .ref q1, .ref q3, .ref q5, .ref q6, .ref q8, .int 0, .int 0, .int 0, .int (-1)] ∧ news = [(q1, .inr (8, [.ref q2, .int 3, .int 0])), (q2, .inl (cA 0, 252, .inl (fun _ => 0))), (q3, .inr (10, [.ref q4])), (q4, .inl (cA 3, 672, .inr (.inl (fun _ => 0)))), (q5, .inl (cA 0, 2016, .inl (fun _ => 0))), (q6, .inr (10, [.ref q7])), (q7, .inl (cA 3, 12096, .inr (.inl (fun _ => 0)))), (q8, .inr (10, [.ref q9])), (q9, .inl (cA 3, 12, .inr (.inl (fun _ => 0))))]) := by
  show jn_J l D cA (fun _ => True) a z 2 3 9 (15054) RX2 cX2_init 4 0 [(0, .ref a), (1, .ref p1), (2, .ref p2), (3, .ref p3)] [] _ 0 0 _
  refine jn_aload_n (x := a) dcX2_init_0 (List.mem_of_getElem? (i := 0) rfl) ?_
  refine jn_obj (ja_m (ck_tb_in (p := 5287) (by decide +kernel)) rfl) jo_i jo_c (by decide) (Nat.le_of_ble_eq_true rfl) dcX2_init_1 ?_
  refine jn_aload_n (x := a) dcX2_init_4 (List.mem_of_getElem? (i := 0) rfl) ?_
  refine jn_new (C := RX8) (T := TX8) (N := 3) (cj := 8) (fs := [.null, .int 0, .int 0]) tyX8 cl_in8 tyX8_ok (ja_m (ck_tb_in (p := 5288) (by decide +kernel)) rfl) (ja_m (ck_tb_in (p := 4905) (by decide +kernel)) rfl) (ja_m (ck_tb_in (p := 4867) (by decide +kernel)) rfl) rfl dfX8 (Nat.le_of_ble_eq_true rfl) (Nat.le_of_ble_eq_true rfl) dcX2_init_5 (fun q1 => ?_)
  refine jn_at [(a, .inr (2, [.null, .null, .null, .null, .null, .null, .null, .null, .int 0, .int 0, .int 0, .int 0])), (q1, .inr (8, [.null, .int 0, .int 0]))] rfl ?_
  refine jn_dup dcX2_init_8 ?_
  refine jn_bipush (w := 84) dcX2_init_9 (by decide +kernel) ?_
  refine jn_iconst (w := 3) dcX2_init_11 (by decide +kernel) ?_
  refine jn_call (F' := fun _ => True) (y := yX8_init) (cc' := cX8_init) (nL' := 3) (i := 1) (b := q1) (vals := [.int 84, .int 3]) (nn := 2) (cj := 8) (fs := [.null, .int 0, .int 0]) (ja_m (ck_tb_in (p := 5289) (by decide +kernel)) rfl) (ja_m (ck_tb_in (p := 4907) (by decide +kernel)) rfl) (ja_m (ck_tb_in (p := 4867) (by decide +kernel)) rfl) (ja_m (ck_tb_in (p := 4908) (by decide +kernel)) rfl) (by decide +kernel) (by decide +kernel) rfl rfl (by decide) (by decide) (Nat.le_of_ble_eq_true rfl) (fun _ _ _ _ _ => trivial) (fun _ _ _ _ _ _ _ _ _ => trivial) rfl (fun z9 h9 => ct_Table (l := l) (D := D) (cA := cA) (a := q1) (z := z9) (mo := 84) (wi := 3) (N := 252) (by decide) (by decide) (by decide) (by decide) (by decide)) (Nat.le_of_ble_eq_true rfl) (Nat.le_of_ble_eq_true rfl) (Nat.le_of_ble_eq_true rfl) dcX2_init_12 (fun fs9 news9 hq9 => ?_)
  obtain ⟨q2, rfl, rfl⟩ := hq9
  refine jn_at [(a, .inr (2, [.null, .null, .null, .null, .null, .null, .null, .null, .int 0, .int 0, .int 0, .int 0])), (q1, .inr (8, [.ref q2, .int 3, .int 0])), (q2, .inl (cA 0, 252, .inl (fun _ => 0)))] rfl ?_
  refine jn_putF (q0 := 0) (cj := 2) (N := 12) (C := RX2) (T := TX2) (j := 3) tyX2 cl_in2 tyX2_ok nmX2 rfl rfl (by decide) (ja_m (ck_tb_in (p := 5295) (by decide +kernel)) rfl) rfl rfl rfl rfl (Nat.le_of_ble_eq_true rfl) dcX2_init_15 ?_
  refine jn_at [(a, .inr (2, [.null, .null, .null, .ref q1, .null, .null, .null, .null, .int 0, .int 0, .int 0, .int 0])), (q1, .inr (8, [.ref q2, .int 3, .int 0])), (q2, .inl (cA 0, 252, .inl (fun _ => 0)))] rfl ?_
  refine jn_aload_n (x := a) dcX2_init_18 (List.mem_of_getElem? (i := 0) rfl) ?_
  refine jn_new (C := RX10) (T := TX10) (N := 1) (cj := 10) (fs := [.null]) tyX10 cl_in10 tyX10_ok (ja_m (ck_tb_in (p := 5290) (by decide +kernel)) rfl) (ja_m (ck_tb_in (p := 5236) (by decide +kernel)) rfl) (ja_m (ck_tb_in (p := 4875) (by decide +kernel)) rfl) rfl dfX10 (Nat.le_of_ble_eq_true rfl) (Nat.le_of_ble_eq_true rfl) dcX2_init_19 (fun q3 => ?_)
  refine jn_at [(a, .inr (2, [.null, .null, .null, .ref q1, .null, .null, .null, .null, .int 0, .int 0, .int 0, .int 0])), (q1, .inr (8, [.ref q2, .int 3, .int 0])), (q2, .inl (cA 0, 252, .inl (fun _ => 0))), (q3, .inr (10, [.null]))] rfl ?_
  refine jn_dup dcX2_init_22 ?_
  refine jn_sipush (w := 672) dcX2_init_23 (by decide +kernel) ?_
  refine jn_call (F' := fun _ => True) (y := yX10_init) (cc' := cX10_init) (nL' := 2) (i := 3) (b := q3) (vals := [.int 672]) (nn := 1) (cj := 10) (fs := [.null]) (ja_m (ck_tb_in (p := 5291) (by decide +kernel)) rfl) (ja_m (ck_tb_in (p := 5238) (by decide +kernel)) rfl) (ja_m (ck_tb_in (p := 4875) (by decide +kernel)) rfl) (ja_m (ck_tb_in (p := 5239) (by decide +kernel)) rfl) (by decide +kernel) (by decide +kernel) rfl rfl (by decide) (by decide) (Nat.le_of_ble_eq_true rfl) (fun _ _ _ _ _ => trivial) (fun _ _ _ _ _ _ _ _ _ => trivial) rfl (fun z9 h9 => ct_Values (l := l) (D := D) (cA := cA) (a := q3) (z := z9) (mo := 672) (N := 672) (by decide) (by decide) (by decide) (by decide)) (Nat.le_of_ble_eq_true rfl) (Nat.le_of_ble_eq_true rfl) (Nat.le_of_ble_eq_true rfl) dcX2_init_26 (fun fs9 news9 hq9 => ?_)
  obtain ⟨q4, rfl, rfl⟩ := hq9
  refine jn_at [(a, .inr (2, [.null, .null, .null, .ref q1, .null, .null, .null, .null, .int 0, .int 0, .int 0, .int 0])), (q1, .inr (8, [.ref q2, .int 3, .int 0])), (q2, .inl (cA 0, 252, .inl (fun _ => 0))), (q3, .inr (10, [.ref q4])), (q4, .inl (cA 3, 672, .inr (.inl (fun _ => 0))))] rfl ?_
  refine jn_putF (q0 := 0) (cj := 2) (N := 12) (C := RX2) (T := TX2) (j := 4) tyX2 cl_in2 tyX2_ok nmX2 rfl rfl (by decide) (ja_m (ck_tb_in (p := 5296) (by decide +kernel)) rfl) rfl rfl rfl rfl (Nat.le_of_ble_eq_true rfl) dcX2_init_29 ?_
  refine jn_at [(a, .inr (2, [.null, .null, .null, .ref q1, .ref q3, .null, .null, .null, .int 0, .int 0, .int 0, .int 0])), (q1, .inr (8, [.ref q2, .int 3, .int 0])), (q2, .inl (cA 0, 252, .inl (fun _ => 0))), (q3, .inr (10, [.ref q4])), (q4, .inl (cA 3, 672, .inr (.inl (fun _ => 0))))] rfl ?_
  refine jn_aload_n (x := a) dcX2_init_32 (List.mem_of_getElem? (i := 0) rfl) ?_
  refine jn_sipush (w := 2016) dcX2_init_33 (by decide +kernel) ?_
  refine jn_newI (v := 2016) (N := 2016) (by decide) (by decide) (by decide) (Nat.le_of_ble_eq_true rfl) (Nat.le_of_ble_eq_true rfl) dcX2_init_36 (fun q5 => ?_)
  refine jn_at [(a, .inr (2, [.null, .null, .null, .ref q1, .ref q3, .null, .null, .null, .int 0, .int 0, .int 0, .int 0])), (q1, .inr (8, [.ref q2, .int 3, .int 0])), (q2, .inl (cA 0, 252, .inl (fun _ => 0))), (q3, .inr (10, [.ref q4])), (q4, .inl (cA 3, 672, .inr (.inl (fun _ => 0)))), (q5, .inl (cA 0, 2016, .inl (fun _ => 0)))] rfl ?_
  refine jn_putF (q0 := 0) (cj := 2) (N := 12) (C := RX2) (T := TX2) (j := 5) tyX2 cl_in2 tyX2_ok nmX2 rfl rfl (by decide) (ja_m (ck_tb_in (p := 5297) (by decide +kernel)) rfl) rfl rfl rfl rfl (Nat.le_of_ble_eq_true rfl) dcX2_init_38 ?_
  refine jn_at [(a, .inr (2, [.null, .null, .null, .ref q1, .ref q3, .ref q5, .null, .null, .int 0, .int 0, .int 0, .int 0])), (q1, .inr (8, [.ref q2, .int 3, .int 0])), (q2, .inl (cA 0, 252, .inl (fun _ => 0))), (q3, .inr (10, [.ref q4])), (q4, .inl (cA 3, 672, .inr (.inl (fun _ => 0)))), (q5, .inl (cA 0, 2016, .inl (fun _ => 0)))] rfl ?_
  refine jn_aload_n (x := a) dcX2_init_41 (List.mem_of_getElem? (i := 0) rfl) ?_
  refine jn_new (C := RX10) (T := TX10) (N := 1) (cj := 10) (fs := [.null]) tyX10 cl_in10 tyX10_ok (ja_m (ck_tb_in (p := 5290) (by decide +kernel)) rfl) (ja_m (ck_tb_in (p := 5236) (by decide +kernel)) rfl) (ja_m (ck_tb_in (p := 4875) (by decide +kernel)) rfl) rfl dfX10 (Nat.le_of_ble_eq_true rfl) (Nat.le_of_ble_eq_true rfl) dcX2_init_42 (fun q6 => ?_)
  refine jn_at [(a, .inr (2, [.null, .null, .null, .ref q1, .ref q3, .ref q5, .null, .null, .int 0, .int 0, .int 0, .int 0])), (q1, .inr (8, [.ref q2, .int 3, .int 0])), (q2, .inl (cA 0, 252, .inl (fun _ => 0))), (q3, .inr (10, [.ref q4])), (q4, .inl (cA 3, 672, .inr (.inl (fun _ => 0)))), (q5, .inl (cA 0, 2016, .inl (fun _ => 0))), (q6, .inr (10, [.null]))] rfl ?_
  refine jn_dup dcX2_init_45 ?_
  refine jn_sipush (w := 12096) dcX2_init_46 (by decide +kernel) ?_
  refine jn_call (F' := fun _ => True) (y := yX10_init) (cc' := cX10_init) (nL' := 2) (i := 6) (b := q6) (vals := [.int 12096]) (nn := 1) (cj := 10) (fs := [.null]) (ja_m (ck_tb_in (p := 5291) (by decide +kernel)) rfl) (ja_m (ck_tb_in (p := 5238) (by decide +kernel)) rfl) (ja_m (ck_tb_in (p := 4875) (by decide +kernel)) rfl) (ja_m (ck_tb_in (p := 5239) (by decide +kernel)) rfl) (by decide +kernel) (by decide +kernel) rfl rfl (by decide) (by decide) (Nat.le_of_ble_eq_true rfl) (fun _ _ _ _ _ => trivial) (fun _ _ _ _ _ _ _ _ _ => trivial) rfl (fun z9 h9 => ct_Values (l := l) (D := D) (cA := cA) (a := q6) (z := z9) (mo := 12096) (N := 12096) (by decide) (by decide) (by decide) (by decide)) (Nat.le_of_ble_eq_true rfl) (Nat.le_of_ble_eq_true rfl) (Nat.le_of_ble_eq_true rfl) dcX2_init_49 (fun fs9 news9 hq9 => ?_)
  obtain ⟨q7, rfl, rfl⟩ := hq9
  refine jn_at [(a, .inr (2, [.null, .null, .null, .ref q1, .ref q3, .ref q5, .null, .null, .int 0, .int 0, .int 0, .int 0])), (q1, .inr (8, [.ref q2, .int 3, .int 0])), (q2, .inl (cA 0, 252, .inl (fun _ => 0))), (q3, .inr (10, [.ref q4])), (q4, .inl (cA 3, 672, .inr (.inl (fun _ => 0)))), (q5, .inl (cA 0, 2016, .inl (fun _ => 0))), (q6, .inr (10, [.ref q7])), (q7, .inl (cA 3, 12096, .inr (.inl (fun _ => 0))))] rfl ?_
  refine jn_putF (q0 := 0) (cj := 2) (N := 12) (C := RX2) (T := TX2) (j := 6) tyX2 cl_in2 tyX2_ok nmX2 rfl rfl (by decide) (ja_m (ck_tb_in (p := 5298) (by decide +kernel)) rfl) rfl rfl rfl rfl (Nat.le_of_ble_eq_true rfl) dcX2_init_52 ?_
  refine jn_at [(a, .inr (2, [.null, .null, .null, .ref q1, .ref q3, .ref q5, .ref q6, .null, .int 0, .int 0, .int 0, .int 0])), (q1, .inr (8, [.ref q2, .int 3, .int 0])), (q2, .inl (cA 0, 252, .inl (fun _ => 0))), (q3, .inr (10, [.ref q4])), (q4, .inl (cA 3, 672, .inr (.inl (fun _ => 0)))), (q5, .inl (cA 0, 2016, .inl (fun _ => 0))), (q6, .inr (10, [.ref q7])), (q7, .inl (cA 3, 12096, .inr (.inl (fun _ => 0))))] rfl ?_
  refine jn_aload_n (x := a) dcX2_init_55 (List.mem_of_getElem? (i := 0) rfl) ?_
  refine jn_new (C := RX10) (T := TX10) (N := 1) (cj := 10) (fs := [.null]) tyX10 cl_in10 tyX10_ok (ja_m (ck_tb_in (p := 5290) (by decide +kernel)) rfl) (ja_m (ck_tb_in (p := 5236) (by decide +kernel)) rfl) (ja_m (ck_tb_in (p := 4875) (by decide +kernel)) rfl) rfl dfX10 (Nat.le_of_ble_eq_true rfl) (Nat.le_of_ble_eq_true rfl) dcX2_init_56 (fun q8 => ?_)
  refine jn_at [(a, .inr (2, [.null, .null, .null, .ref q1, .ref q3, .ref q5, .ref q6, .null, .int 0, .int 0, .int 0, .int 0])), (q1, .inr (8, [.ref q2, .int 3, .int 0])), (q2, .inl (cA 0, 252, .inl (fun _ => 0))), (q3, .inr (10, [.ref q4])), (q4, .inl (cA 3, 672, .inr (.inl (fun _ => 0)))), (q5, .inl (cA 0, 2016, .inl (fun _ => 0))), (q6, .inr (10, [.ref q7])), (q7, .inl (cA 3, 12096, .inr (.inl (fun _ => 0)))), (q8, .inr (10, [.null]))] rfl ?_
  refine jn_dup dcX2_init_59 ?_
  refine jn_bipush (w := 12) dcX2_init_60 (by decide +kernel) ?_
  refine jn_call (F' := fun _ => True) (y := yX10_init) (cc' := cX10_init) (nL' := 2) (i := 8) (b := q8) (vals := [.int 12]) (nn := 1) (cj := 10) (fs := [.null]) (ja_m (ck_tb_in (p := 5291) (by decide +kernel)) rfl) (ja_m (ck_tb_in (p := 5238) (by decide +kernel)) rfl) (ja_m (ck_tb_in (p := 4875) (by decide +kernel)) rfl) (ja_m (ck_tb_in (p := 5239) (by decide +kernel)) rfl) (by decide +kernel) (by decide +kernel) rfl rfl (by decide) (by decide) (Nat.le_of_ble_eq_true rfl) (fun _ _ _ _ _ => trivial) (fun _ _ _ _ _ _ _ _ _ => trivial) rfl (fun z9 h9 => ct_Values (l := l) (D := D) (cA := cA) (a := q8) (z := z9) (mo := 12) (N := 12) (by decide) (by decide) (by decide) (by decide)) (Nat.le_of_ble_eq_true rfl) (Nat.le_of_ble_eq_true rfl) (Nat.le_of_ble_eq_true rfl) dcX2_init_62 (fun fs9 news9 hq9 => ?_)
  obtain ⟨q9, rfl, rfl⟩ := hq9
  refine jn_at [(a, .inr (2, [.null, .null, .null, .ref q1, .ref q3, .ref q5, .ref q6, .null, .int 0, .int 0, .int 0, .int 0])), (q1, .inr (8, [.ref q2, .int 3, .int 0])), (q2, .inl (cA 0, 252, .inl (fun _ => 0))), (q3, .inr (10, [.ref q4])), (q4, .inl (cA 3, 672, .inr (.inl (fun _ => 0)))), (q5, .inl (cA 0, 2016, .inl (fun _ => 0))), (q6, .inr (10, [.ref q7])), (q7, .inl (cA 3, 12096, .inr (.inl (fun _ => 0)))), (q8, .inr (10, [.ref q9])), (q9, .inl (cA 3, 12, .inr (.inl (fun _ => 0))))] rfl ?_
  refine jn_putF (q0 := 0) (cj := 2) (N := 12) (C := RX2) (T := TX2) (j := 7) tyX2 cl_in2 tyX2_ok nmX2 rfl rfl (by decide) (ja_m (ck_tb_in (p := 5299) (by decide +kernel)) rfl) rfl rfl rfl rfl (Nat.le_of_ble_eq_true rfl) dcX2_init_65 ?_
  refine jn_at [(a, .inr (2, [.null, .null, .null, .ref q1, .ref q3, .ref q5, .ref q6, .ref q8, .int 0, .int 0, .int 0, .int 0])), (q1, .inr (8, [.ref q2, .int 3, .int 0])), (q2, .inl (cA 0, 252, .inl (fun _ => 0))), (q3, .inr (10, [.ref q4])), (q4, .inl (cA 3, 672, .inr (.inl (fun _ => 0)))), (q5, .inl (cA 0, 2016, .inl (fun _ => 0))), (q6, .inr (10, [.ref q7])), (q7, .inl (cA 3, 12096, .inr (.inl (fun _ => 0)))), (q8, .inr (10, [.ref q9])), (q9, .inl (cA 3, 12, .inr (.inl (fun _ => 0))))] rfl ?_
  refine jn_aload_n (x := a) dcX2_init_68 (List.mem_of_getElem? (i := 0) rfl) ?_
  refine jn_iconst (w := (-1)) dcX2_init_69 (by decide +kernel) ?_
  refine jn_put (q0 := 0) (cj := 2) (N := 12) (C := RX2) (T := TX2) (j := 11) tyX2 cl_in2 tyX2_ok nmX2 rfl rfl (by decide) (ja_m (ck_tb_in (p := 5303) (by decide +kernel)) rfl) rfl rfl rfl (Nat.le_of_ble_eq_true rfl) dcX2_init_70 ?_
  refine jn_at [(a, .inr (2, [.null, .null, .null, .ref q1, .ref q3, .ref q5, .ref q6, .ref q8, .int 0, .int 0, .int 0, .int (-1)])), (q1, .inr (8, [.ref q2, .int 3, .int 0])), (q2, .inl (cA 0, 252, .inl (fun _ => 0))), (q3, .inr (10, [.ref q4])), (q4, .inl (cA 3, 672, .inr (.inl (fun _ => 0)))), (q5, .inl (cA 0, 2016, .inl (fun _ => 0))), (q6, .inr (10, [.ref q7])), (q7, .inl (cA 3, 12096, .inr (.inl (fun _ => 0)))), (q8, .inr (10, [.ref q9])), (q9, .inl (cA 3, 12, .inr (.inl (fun _ => 0))))] rfl ?_
  refine jn_aload_n (x := a) dcX2_init_73 (List.mem_of_getElem? (i := 0) rfl) ?_
  refine jn_aload_n (x := p1) dcX2_init_74 (List.mem_of_getElem? (i := 1) rfl) ?_
  refine jn_putF (q0 := 0) (cj := 2) (N := 12) (C := RX2) (T := TX2) (j := 0) tyX2 cl_in2 tyX2_ok nmX2 rfl rfl (by decide) (ja_m (ck_tb_in (p := 5292) (by decide +kernel)) rfl) rfl rfl rfl rfl (Nat.le_of_ble_eq_true rfl) dcX2_init_75 ?_
  refine jn_at [(a, .inr (2, [.ref p1, .null, .null, .ref q1, .ref q3, .ref q5, .ref q6, .ref q8, .int 0, .int 0, .int 0, .int (-1)])), (q1, .inr (8, [.ref q2, .int 3, .int 0])), (q2, .inl (cA 0, 252, .inl (fun _ => 0))), (q3, .inr (10, [.ref q4])), (q4, .inl (cA 3, 672, .inr (.inl (fun _ => 0)))), (q5, .inl (cA 0, 2016, .inl (fun _ => 0))), (q6, .inr (10, [.ref q7])), (q7, .inl (cA 3, 12096, .inr (.inl (fun _ => 0)))), (q8, .inr (10, [.ref q9])), (q9, .inl (cA 3, 12, .inr (.inl (fun _ => 0))))] rfl ?_
  refine jn_aload_n (x := a) dcX2_init_78 (List.mem_of_getElem? (i := 0) rfl) ?_
  refine jn_aload_n (x := p2) dcX2_init_79 (List.mem_of_getElem? (i := 2) rfl) ?_
  refine jn_putF (q0 := 0) (cj := 2) (N := 12) (C := RX2) (T := TX2) (j := 1) tyX2 cl_in2 tyX2_ok nmX2 rfl rfl (by decide) (ja_m (ck_tb_in (p := 5293) (by decide +kernel)) rfl) rfl rfl rfl rfl (Nat.le_of_ble_eq_true rfl) dcX2_init_80 ?_
  refine jn_at [(a, .inr (2, [.ref p1, .ref p2, .null, .ref q1, .ref q3, .ref q5, .ref q6, .ref q8, .int 0, .int 0, .int 0, .int (-1)])), (q1, .inr (8, [.ref q2, .int 3, .int 0])), (q2, .inl (cA 0, 252, .inl (fun _ => 0))), (q3, .inr (10, [.ref q4])), (q4, .inl (cA 3, 672, .inr (.inl (fun _ => 0)))), (q5, .inl (cA 0, 2016, .inl (fun _ => 0))), (q6, .inr (10, [.ref q7])), (q7, .inl (cA 3, 12096, .inr (.inl (fun _ => 0)))), (q8, .inr (10, [.ref q9])), (q9, .inl (cA 3, 12, .inr (.inl (fun _ => 0))))] rfl ?_
  refine jn_aload_n (x := a) dcX2_init_83 (List.mem_of_getElem? (i := 0) rfl) ?_
  refine jn_aload_n (x := p3) dcX2_init_84 (List.mem_of_getElem? (i := 3) rfl) ?_
  refine jn_putF (q0 := 0) (cj := 2) (N := 12) (C := RX2) (T := TX2) (j := 2) tyX2 cl_in2 tyX2_ok nmX2 rfl rfl (by decide) (ja_m (ck_tb_in (p := 5294) (by decide +kernel)) rfl) rfl rfl rfl rfl (Nat.le_of_ble_eq_true rfl) dcX2_init_85 ?_
  refine jn_at [(a, .inr (2, [.ref p1, .ref p2, .ref p3, .ref q1, .ref q3, .ref q5, .ref q6, .ref q8, .int 0, .int 0, .int 0, .int (-1)])), (q1, .inr (8, [.ref q2, .int 3, .int 0])), (q2, .inl (cA 0, 252, .inl (fun _ => 0))), (q3, .inr (10, [.ref q4])), (q4, .inl (cA 3, 672, .inr (.inl (fun _ => 0)))), (q5, .inl (cA 0, 2016, .inl (fun _ => 0))), (q6, .inr (10, [.ref q7])), (q7, .inl (cA 3, 12096, .inr (.inl (fun _ => 0)))), (q8, .inr (10, [.ref q9])), (q9, .inl (cA 3, 12, .inr (.inl (fun _ => 0))))] rfl ?_
  exact jn_ret (fs := [.ref p1, .ref p2, .ref p3, .ref q1, .ref q3, .ref q5, .ref q6, .ref q8, .int 0, .int 0, .int 0, .int (-1)]) (news := [(q1, .inr (8, [.ref q2, .int 3, .int 0])), (q2, .inl (cA 0, 252, .inl (fun _ => 0))), (q3, .inr (10, [.ref q4])), (q4, .inl (cA 3, 672, .inr (.inl (fun _ => 0)))), (q5, .inl (cA 0, 2016, .inl (fun _ => 0))), (q6, .inr (10, [.ref q7])), (q7, .inl (cA 3, 12096, .inr (.inl (fun _ => 0)))), (q8, .inr (10, [.ref q9])), (q9, .inl (cA 3, 12, .inr (.inl (fun _ => 0))))]) rfl ⟨q1, q2, q3, q4, q5, q6, q7, q8, q9, rfl, rfl⟩ (Nat.le_of_ble_eq_true rfl) (Nat.le_of_ble_eq_true rfl) dcX2_init_88
end CT
