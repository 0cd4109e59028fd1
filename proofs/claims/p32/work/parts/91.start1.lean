theorem cel_0 : kT.getD 0 0 = 11 ∧ lT.getD 0 0 = 0 ∧ pT.getD 0 0 = 16 ∧ iT.getD 0 [] = [1, 3, 28, 29, 0, 0, 30, 0, 31, 52, 55, 57, 58, 63, 66, 68] := by decide +kernel
theorem cel_1 : kT.getD 1 0 = 7 ∧ lT.getD 1 0 = 0 ∧ pT.getD 1 0 = 5 ∧ iT.getD 1 [] = [2, 0, 0, 0, 0] := by decide +kernel
theorem cel_2 : kT.getD 2 0 = 13 ∧ lT.getD 2 0 = 400 ∧ pT.getD 2 0 = 400 ∧ iT.getD 2 [] = [0] := by decide +kernel
theorem cel_3 : kT.getD 3 0 = 4 ∧ lT.getD 3 0 = 0 ∧ pT.getD 3 0 = 10 ∧ iT.getD 3 [] = [((3 : Nat) : Int) + 1, ((3 : Nat) : Int) + 13, -1, 0, 0, ((3 : Nat) : Int) + 21, ((3 : Nat) : Int) + 22, ((3 : Nat) : Int) + 23, ((3 : Nat) : Int) + 24, 0] := by decide +kernel
theorem cel_4 : kT.getD 4 0 = 8 ∧ lT.getD 4 0 = 0 ∧ pT.getD 4 0 = 19 ∧ iT.getD 4 [] = [0, 0, 0, 0, 0, 0, 0, 0, ((4 : Nat) : Int) + 1, ((4 : Nat) : Int) + 2, ((4 : Nat) : Int) + 3, ((4 : Nat) : Int) + 4, ((4 : Nat) : Int) + 5, ((4 : Nat) : Int) + 6, ((4 : Nat) : Int) + 7, ((4 : Nat) : Int) + 8, ((4 : Nat) : Int) + 9, ((4 : Nat) : Int) + 10, ((4 : Nat) : Int) + 11] := by decide +kernel
theorem cel_5 : kT.getD 5 0 = 14 ∧ lT.getD 5 0 = 36 ∧ pT.getD 5 0 = 36 ∧ iT.getD 5 [] = [0] := by decide +kernel
theorem cel_6 : kT.getD 6 0 = 14 ∧ lT.getD 6 0 = 36 ∧ pT.getD 6 0 = 36 ∧ iT.getD 6 [] = [0] := by decide +kernel
theorem cel_7 : kT.getD 7 0 = 14 ∧ lT.getD 7 0 = 5 ∧ pT.getD 7 0 = 5 ∧ iT.getD 7 [] = [0] := by decide +kernel
theorem cel_8 : kT.getD 8 0 = 14 ∧ lT.getD 8 0 = 5 ∧ pT.getD 8 0 = 5 ∧ iT.getD 8 [] = [0] := by decide +kernel
theorem cel_9 : kT.getD 9 0 = 14 ∧ lT.getD 9 0 = 4 ∧ pT.getD 9 0 = 4 ∧ iT.getD 9 [] = [0] := by decide +kernel
theorem cel_10 : kT.getD 10 0 = 14 ∧ lT.getD 10 0 = 4 ∧ pT.getD 10 0 = 4 ∧ iT.getD 10 [] = [0] := by decide +kernel
theorem cel_11 : kT.getD 11 0 = 14 ∧ lT.getD 11 0 = 4 ∧ pT.getD 11 0 = 4 ∧ iT.getD 11 [] = [0] := by decide +kernel
theorem cel_12 : kT.getD 12 0 = 14 ∧ lT.getD 12 0 = 6 ∧ pT.getD 12 0 = 6 ∧ iT.getD 12 [] = [0] := by decide +kernel
theorem cel_13 : kT.getD 13 0 = 14 ∧ lT.getD 13 0 = 6 ∧ pT.getD 13 0 = 6 ∧ iT.getD 13 [] = [0] := by decide +kernel
theorem cel_14 : kT.getD 14 0 = 14 ∧ lT.getD 14 0 = 6 ∧ pT.getD 14 0 = 6 ∧ iT.getD 14 [] = [0] := by decide +kernel
theorem cel_15 : kT.getD 15 0 = 14 ∧ lT.getD 15 0 = 6 ∧ pT.getD 15 0 = 6 ∧ iT.getD 15 [] = [0] := by decide +kernel
theorem cel_16 : kT.getD 16 0 = 5 ∧ lT.getD 16 0 = 0 ∧ pT.getD 16 0 = 9 ∧ iT.getD 16 [] = [0, 0, ((16 : Nat) : Int) + 1, ((16 : Nat) : Int) + 2, ((16 : Nat) : Int) + 3, ((16 : Nat) : Int) + 4, ((16 : Nat) : Int) + 5, ((16 : Nat) : Int) + 6, ((16 : Nat) : Int) + 7] := by decide +kernel
theorem cel_17 : kT.getD 17 0 = 14 ∧ lT.getD 17 0 = 5 ∧ pT.getD 17 0 = 5 ∧ iT.getD 17 [] = [0] := by decide +kernel
theorem cel_18 : kT.getD 18 0 = 14 ∧ lT.getD 18 0 = 5 ∧ pT.getD 18 0 = 5 ∧ iT.getD 18 [] = [0] := by decide +kernel
theorem cel_19 : kT.getD 19 0 = 14 ∧ lT.getD 19 0 = 5 ∧ pT.getD 19 0 = 5 ∧ iT.getD 19 [] = [0] := by decide +kernel
theorem cel_20 : kT.getD 20 0 = 14 ∧ lT.getD 20 0 = 4 ∧ pT.getD 20 0 = 4 ∧ iT.getD 20 [] = [-1] := by decide +kernel
theorem cel_21 : kT.getD 21 0 = 14 ∧ lT.getD 21 0 = 4 ∧ pT.getD 21 0 = 4 ∧ iT.getD 21 [] = [-1] := by decide +kernel
theorem cel_22 : kT.getD 22 0 = 14 ∧ lT.getD 22 0 = 4 ∧ pT.getD 22 0 = 4 ∧ iT.getD 22 [] = [0] := by decide +kernel
theorem cel_23 : kT.getD 23 0 = 14 ∧ lT.getD 23 0 = 6 ∧ pT.getD 23 0 = 6 ∧ iT.getD 23 [] = [-1] := by decide +kernel
theorem cel_24 : kT.getD 24 0 = 14 ∧ lT.getD 24 0 = 10 ∧ pT.getD 24 0 = 10 ∧ iT.getD 24 [] = [0] := by decide +kernel
theorem cel_25 : kT.getD 25 0 = 14 ∧ lT.getD 25 0 = 10 ∧ pT.getD 25 0 = 10 ∧ iT.getD 25 [] = [0] := by decide +kernel
theorem cel_26 : kT.getD 26 0 = 14 ∧ lT.getD 26 0 = 10 ∧ pT.getD 26 0 = 10 ∧ iT.getD 26 [] = [0] := by decide +kernel
theorem cel_27 : kT.getD 27 0 = 14 ∧ lT.getD 27 0 = 10 ∧ pT.getD 27 0 = 10 ∧ iT.getD 27 [] = [0] := by decide +kernel
theorem cel_28 : kT.getD 28 0 = 17 ∧ lT.getD 28 0 = 4 ∧ pT.getD 28 0 = 4 ∧ iT.getD 28 [] = [76, 101, 126, 151] := by decide +kernel
theorem cel_29 : kT.getD 29 0 = 18 ∧ lT.getD 29 0 = 20 ∧ pT.getD 29 0 = 20 ∧ iT.getD 29 [] = [176, 184, 192, 200, 208, 216, 224, 232, 240, 248, 256, 264, 272, 280, 288, 296, 304, 312, 320, 328] := by decide +kernel
theorem cel_30 : kT.getD 30 0 = 19 ∧ lT.getD 30 0 = 6 ∧ pT.getD 30 0 = 6 ∧ iT.getD 30 [] = [-2] := by decide +kernel
theorem cel_31 : kT.getD 31 0 = 0 ∧ lT.getD 31 0 = 0 ∧ pT.getD 31 0 = 3 ∧ iT.getD 31 [] = [1, 32, 44] := by decide +kernel
theorem cel_32 : kT.getD 32 0 = 8 ∧ lT.getD 32 0 = 0 ∧ pT.getD 32 0 = 19 ∧ iT.getD 32 [] = [0, 0, 0, 0, 0, 0, 0, 0, ((32 : Nat) : Int) + 1, ((32 : Nat) : Int) + 2, ((32 : Nat) : Int) + 3, ((32 : Nat) : Int) + 4, ((32 : Nat) : Int) + 5, ((32 : Nat) : Int) + 6, ((32 : Nat) : Int) + 7, ((32 : Nat) : Int) + 8, ((32 : Nat) : Int) + 9, ((32 : Nat) : Int) + 10, ((32 : Nat) : Int) + 11] := by decide +kernel
theorem cel_33 : kT.getD 33 0 = 14 ∧ lT.getD 33 0 = 36 ∧ pT.getD 33 0 = 36 ∧ iT.getD 33 [] = [0] := by decide +kernel
theorem cel_34 : kT.getD 34 0 = 14 ∧ lT.getD 34 0 = 36 ∧ pT.getD 34 0 = 36 ∧ iT.getD 34 [] = [0] := by decide +kernel
theorem cel_35 : kT.getD 35 0 = 14 ∧ lT.getD 35 0 = 5 ∧ pT.getD 35 0 = 5 ∧ iT.getD 35 [] = [0] := by decide +kernel
theorem cel_36 : kT.getD 36 0 = 14 ∧ lT.getD 36 0 = 5 ∧ pT.getD 36 0 = 5 ∧ iT.getD 36 [] = [0] := by decide +kernel
theorem cel_37 : kT.getD 37 0 = 14 ∧ lT.getD 37 0 = 4 ∧ pT.getD 37 0 = 4 ∧ iT.getD 37 [] = [0] := by decide +kernel
theorem cel_38 : kT.getD 38 0 = 14 ∧ lT.getD 38 0 = 4 ∧ pT.getD 38 0 = 4 ∧ iT.getD 38 [] = [0] := by decide +kernel
theorem cel_39 : kT.getD 39 0 = 14 ∧ lT.getD 39 0 = 4 ∧ pT.getD 39 0 = 4 ∧ iT.getD 39 [] = [0] := by decide +kernel
theorem cel_40 : kT.getD 40 0 = 14 ∧ lT.getD 40 0 = 6 ∧ pT.getD 40 0 = 6 ∧ iT.getD 40 [] = [0] := by decide +kernel
theorem cel_41 : kT.getD 41 0 = 14 ∧ lT.getD 41 0 = 6 ∧ pT.getD 41 0 = 6 ∧ iT.getD 41 [] = [0] := by decide +kernel
theorem cel_42 : kT.getD 42 0 = 14 ∧ lT.getD 42 0 = 6 ∧ pT.getD 42 0 = 6 ∧ iT.getD 42 [] = [0] := by decide +kernel
theorem cel_43 : kT.getD 43 0 = 14 ∧ lT.getD 43 0 = 6 ∧ pT.getD 43 0 = 6 ∧ iT.getD 43 [] = [0] := by decide +kernel
theorem cel_44 : kT.getD 44 0 = 5 ∧ lT.getD 44 0 = 0 ∧ pT.getD 44 0 = 9 ∧ iT.getD 44 [] = [0, 0, ((44 : Nat) : Int) + 1, ((44 : Nat) : Int) + 2, ((44 : Nat) : Int) + 3, ((44 : Nat) : Int) + 4, ((44 : Nat) : Int) + 5, ((44 : Nat) : Int) + 6, ((44 : Nat) : Int) + 7] := by decide +kernel
theorem cel_45 : kT.getD 45 0 = 14 ∧ lT.getD 45 0 = 5 ∧ pT.getD 45 0 = 5 ∧ iT.getD 45 [] = [0] := by decide +kernel
theorem cel_46 : kT.getD 46 0 = 14 ∧ lT.getD 46 0 = 5 ∧ pT.getD 46 0 = 5 ∧ iT.getD 46 [] = [0] := by decide +kernel
theorem cel_47 : kT.getD 47 0 = 14 ∧ lT.getD 47 0 = 5 ∧ pT.getD 47 0 = 5 ∧ iT.getD 47 [] = [0] := by decide +kernel
theorem cel_48 : kT.getD 48 0 = 14 ∧ lT.getD 48 0 = 4 ∧ pT.getD 48 0 = 4 ∧ iT.getD 48 [] = [-1] := by decide +kernel
theorem cel_49 : kT.getD 49 0 = 14 ∧ lT.getD 49 0 = 4 ∧ pT.getD 49 0 = 4 ∧ iT.getD 49 [] = [-1] := by decide +kernel
theorem cel_50 : kT.getD 50 0 = 14 ∧ lT.getD 50 0 = 4 ∧ pT.getD 50 0 = 4 ∧ iT.getD 50 [] = [0] := by decide +kernel
theorem cel_51 : kT.getD 51 0 = 14 ∧ lT.getD 51 0 = 6 ∧ pT.getD 51 0 = 6 ∧ iT.getD 51 [] = [-1] := by decide +kernel
theorem cel_52 : kT.getD 52 0 = 3 ∧ lT.getD 52 0 = 0 ∧ pT.getD 52 0 = 9 ∧ iT.getD 52 [] = [1, 53, 0, 0, 54, 0, 0, 0, 0] := by decide +kernel
theorem cel_53 : kT.getD 53 0 = 14 ∧ lT.getD 53 0 = 400 ∧ pT.getD 53 0 = 400 ∧ iT.getD 53 [] = [0] := by decide +kernel
theorem cel_54 : kT.getD 54 0 = 14 ∧ lT.getD 54 0 = 400 ∧ pT.getD 54 0 = 400 ∧ iT.getD 54 [] = [0] := by decide +kernel
theorem cel_55 : kT.getD 55 0 = 10 ∧ lT.getD 55 0 = 0 ∧ pT.getD 55 0 = 12 ∧ iT.getD 55 [] = [4, -2, 0, 56, 0, 0, 0, 0, 0, 0, 0, 0] := by decide +kernel
theorem cel_56 : kT.getD 56 0 = 16 ∧ lT.getD 56 0 = 64 ∧ pT.getD 56 0 = 64 ∧ iT.getD 56 [] = [0] := by decide +kernel
theorem cel_57 : kT.getD 57 0 = 1 ∧ lT.getD 57 0 = 0 ∧ pT.getD 57 0 = 3 ∧ iT.getD 57 [] = [55, 4, 0] := by decide +kernel
theorem cel_58 : kT.getD 58 0 = 2 ∧ lT.getD 58 0 = 0 ∧ pT.getD 58 0 = 11 ∧ iT.getD 58 [] = [55, 4, 59, 60, 61, 62, 0, 0, 0, 0, 0] := by decide +kernel
theorem cel_59 : kT.getD 59 0 = 14 ∧ lT.getD 59 0 = 5 ∧ pT.getD 59 0 = 5 ∧ iT.getD 59 [] = [0] := by decide +kernel
theorem cel_60 : kT.getD 60 0 = 14 ∧ lT.getD 60 0 = 5 ∧ pT.getD 60 0 = 5 ∧ iT.getD 60 [] = [0] := by decide +kernel
theorem cel_61 : kT.getD 61 0 = 14 ∧ lT.getD 61 0 = 6000 ∧ pT.getD 61 0 = 6000 ∧ iT.getD 61 [] = [0] := by decide +kernel
theorem cel_62 : kT.getD 62 0 = 14 ∧ lT.getD 62 0 = 6000 ∧ pT.getD 62 0 = 6000 ∧ iT.getD 62 [] = [0] := by decide +kernel
theorem cel_63 : kT.getD 63 0 = 6 ∧ lT.getD 63 0 = 0 ∧ pT.getD 63 0 = 3 ∧ iT.getD 63 [] = [4, 64, 65] := by decide +kernel
theorem cel_64 : kT.getD 64 0 = 14 ∧ lT.getD 64 0 = 112 ∧ pT.getD 64 0 = 112 ∧ iT.getD 64 [] = [0] := by decide +kernel
theorem cel_65 : kT.getD 65 0 = 14 ∧ lT.getD 65 0 = 3913 ∧ pT.getD 65 0 = 3913 ∧ iT.getD 65 [] = [0] := by decide +kernel
theorem cel_66 : kT.getD 66 0 = 9 ∧ lT.getD 66 0 = 0 ∧ pT.getD 66 0 = 5 ∧ iT.getD 66 [] = [3, 55, 67, 0, 0] := by decide +kernel
theorem cel_67 : kT.getD 67 0 = 14 ∧ lT.getD 67 0 = 100 ∧ pT.getD 67 0 = 100 ∧ iT.getD 67 [] = [0] := by decide +kernel
theorem cel_68 : kT.getD 68 0 = 5 ∧ lT.getD 68 0 = 0 ∧ pT.getD 68 0 = 9 ∧ iT.getD 68 [] = [0, 0, ((68 : Nat) : Int) + 1, ((68 : Nat) : Int) + 2, ((68 : Nat) : Int) + 3, ((68 : Nat) : Int) + 4, ((68 : Nat) : Int) + 5, ((68 : Nat) : Int) + 6, ((68 : Nat) : Int) + 7] := by decide +kernel
theorem cel_69 : kT.getD 69 0 = 14 ∧ lT.getD 69 0 = 5 ∧ pT.getD 69 0 = 5 ∧ iT.getD 69 [] = [0] := by decide +kernel
theorem cel_70 : kT.getD 70 0 = 14 ∧ lT.getD 70 0 = 5 ∧ pT.getD 70 0 = 5 ∧ iT.getD 70 [] = [0] := by decide +kernel
theorem cel_71 : kT.getD 71 0 = 14 ∧ lT.getD 71 0 = 5 ∧ pT.getD 71 0 = 5 ∧ iT.getD 71 [] = [0] := by decide +kernel
theorem cel_72 : kT.getD 72 0 = 14 ∧ lT.getD 72 0 = 4 ∧ pT.getD 72 0 = 4 ∧ iT.getD 72 [] = [-1] := by decide +kernel
theorem cel_73 : kT.getD 73 0 = 14 ∧ lT.getD 73 0 = 4 ∧ pT.getD 73 0 = 4 ∧ iT.getD 73 [] = [-1] := by decide +kernel
theorem cel_74 : kT.getD 74 0 = 14 ∧ lT.getD 74 0 = 4 ∧ pT.getD 74 0 = 4 ∧ iT.getD 74 [] = [0] := by decide +kernel
theorem cel_75 : kT.getD 75 0 = 14 ∧ lT.getD 75 0 = 6 ∧ pT.getD 75 0 = 6 ∧ iT.getD 75 [] = [-1] := by decide +kernel
theorem cel_76 : kT.getD 76 0 = 4 ∧ lT.getD 76 0 = 0 ∧ pT.getD 76 0 = 10 ∧ iT.getD 76 [] = [((76 : Nat) : Int) + 1, ((76 : Nat) : Int) + 13, -1, 0, 0, ((76 : Nat) : Int) + 21, ((76 : Nat) : Int) + 22, ((76 : Nat) : Int) + 23, ((76 : Nat) : Int) + 24, 0] := by decide +kernel
theorem cel_77 : kT.getD 77 0 = 8 ∧ lT.getD 77 0 = 0 ∧ pT.getD 77 0 = 19 ∧ iT.getD 77 [] = [0, 0, 0, 0, 0, 0, 0, 0, ((77 : Nat) : Int) + 1, ((77 : Nat) : Int) + 2, ((77 : Nat) : Int) + 3, ((77 : Nat) : Int) + 4, ((77 : Nat) : Int) + 5, ((77 : Nat) : Int) + 6, ((77 : Nat) : Int) + 7, ((77 : Nat) : Int) + 8, ((77 : Nat) : Int) + 9, ((77 : Nat) : Int) + 10, ((77 : Nat) : Int) + 11] := by decide +kernel
theorem cel_78 : kT.getD 78 0 = 14 ∧ lT.getD 78 0 = 36 ∧ pT.getD 78 0 = 36 ∧ iT.getD 78 [] = [0] := by decide +kernel
theorem cel_79 : kT.getD 79 0 = 14 ∧ lT.getD 79 0 = 36 ∧ pT.getD 79 0 = 36 ∧ iT.getD 79 [] = [0] := by decide +kernel
theorem cel_80 : kT.getD 80 0 = 14 ∧ lT.getD 80 0 = 5 ∧ pT.getD 80 0 = 5 ∧ iT.getD 80 [] = [0] := by decide +kernel
theorem cel_81 : kT.getD 81 0 = 14 ∧ lT.getD 81 0 = 5 ∧ pT.getD 81 0 = 5 ∧ iT.getD 81 [] = [0] := by decide +kernel
theorem cel_82 : kT.getD 82 0 = 14 ∧ lT.getD 82 0 = 4 ∧ pT.getD 82 0 = 4 ∧ iT.getD 82 [] = [0] := by decide +kernel
theorem cel_83 : kT.getD 83 0 = 14 ∧ lT.getD 83 0 = 4 ∧ pT.getD 83 0 = 4 ∧ iT.getD 83 [] = [0] := by decide +kernel
theorem cel_84 : kT.getD 84 0 = 14 ∧ lT.getD 84 0 = 4 ∧ pT.getD 84 0 = 4 ∧ iT.getD 84 [] = [0] := by decide +kernel
theorem cel_85 : kT.getD 85 0 = 14 ∧ lT.getD 85 0 = 6 ∧ pT.getD 85 0 = 6 ∧ iT.getD 85 [] = [0] := by decide +kernel
theorem cel_86 : kT.getD 86 0 = 14 ∧ lT.getD 86 0 = 6 ∧ pT.getD 86 0 = 6 ∧ iT.getD 86 [] = [0] := by decide +kernel
theorem cel_87 : kT.getD 87 0 = 14 ∧ lT.getD 87 0 = 6 ∧ pT.getD 87 0 = 6 ∧ iT.getD 87 [] = [0] := by decide +kernel
theorem cel_88 : kT.getD 88 0 = 14 ∧ lT.getD 88 0 = 6 ∧ pT.getD 88 0 = 6 ∧ iT.getD 88 [] = [0] := by decide +kernel
theorem cel_89 : kT.getD 89 0 = 5 ∧ lT.getD 89 0 = 0 ∧ pT.getD 89 0 = 9 ∧ iT.getD 89 [] = [0, 0, ((89 : Nat) : Int) + 1, ((89 : Nat) : Int) + 2, ((89 : Nat) : Int) + 3, ((89 : Nat) : Int) + 4, ((89 : Nat) : Int) + 5, ((89 : Nat) : Int) + 6, ((89 : Nat) : Int) + 7] := by decide +kernel
theorem cel_90 : kT.getD 90 0 = 14 ∧ lT.getD 90 0 = 5 ∧ pT.getD 90 0 = 5 ∧ iT.getD 90 [] = [0] := by decide +kernel
theorem cel_91 : kT.getD 91 0 = 14 ∧ lT.getD 91 0 = 5 ∧ pT.getD 91 0 = 5 ∧ iT.getD 91 [] = [0] := by decide +kernel
theorem cel_92 : kT.getD 92 0 = 14 ∧ lT.getD 92 0 = 5 ∧ pT.getD 92 0 = 5 ∧ iT.getD 92 [] = [0] := by decide +kernel
theorem cel_93 : kT.getD 93 0 = 14 ∧ lT.getD 93 0 = 4 ∧ pT.getD 93 0 = 4 ∧ iT.getD 93 [] = [-1] := by decide +kernel
theorem cel_94 : kT.getD 94 0 = 14 ∧ lT.getD 94 0 = 4 ∧ pT.getD 94 0 = 4 ∧ iT.getD 94 [] = [-1] := by decide +kernel
theorem cel_95 : kT.getD 95 0 = 14 ∧ lT.getD 95 0 = 4 ∧ pT.getD 95 0 = 4 ∧ iT.getD 95 [] = [0] := by decide +kernel
theorem cel_96 : kT.getD 96 0 = 14 ∧ lT.getD 96 0 = 6 ∧ pT.getD 96 0 = 6 ∧ iT.getD 96 [] = [-1] := by decide +kernel
theorem cel_97 : kT.getD 97 0 = 14 ∧ lT.getD 97 0 = 10 ∧ pT.getD 97 0 = 10 ∧ iT.getD 97 [] = [0] := by decide +kernel
theorem cel_98 : kT.getD 98 0 = 14 ∧ lT.getD 98 0 = 10 ∧ pT.getD 98 0 = 10 ∧ iT.getD 98 [] = [0] := by decide +kernel
theorem cel_99 : kT.getD 99 0 = 14 ∧ lT.getD 99 0 = 10 ∧ pT.getD 99 0 = 10 ∧ iT.getD 99 [] = [0] := by decide +kernel
theorem cel_100 : kT.getD 100 0 = 14 ∧ lT.getD 100 0 = 10 ∧ pT.getD 100 0 = 10 ∧ iT.getD 100 [] = [0] := by decide +kernel
theorem cel_101 : kT.getD 101 0 = 4 ∧ lT.getD 101 0 = 0 ∧ pT.getD 101 0 = 10 ∧ iT.getD 101 [] = [((101 : Nat) : Int) + 1, ((101 : Nat) : Int) + 13, -1, 0, 0, ((101 : Nat) : Int) + 21, ((101 : Nat) : Int) + 22, ((101 : Nat) : Int) + 23, ((101 : Nat) : Int) + 24, 0] := by decide +kernel
theorem cel_102 : kT.getD 102 0 = 8 ∧ lT.getD 102 0 = 0 ∧ pT.getD 102 0 = 19 ∧ iT.getD 102 [] = [0, 0, 0, 0, 0, 0, 0, 0, ((102 : Nat) : Int) + 1, ((102 : Nat) : Int) + 2, ((102 : Nat) : Int) + 3, ((102 : Nat) : Int) + 4, ((102 : Nat) : Int) + 5, ((102 : Nat) : Int) + 6, ((102 : Nat) : Int) + 7, ((102 : Nat) : Int) + 8, ((102 : Nat) : Int) + 9, ((102 : Nat) : Int) + 10, ((102 : Nat) : Int) + 11] := by decide +kernel
theorem cel_103 : kT.getD 103 0 = 14 ∧ lT.getD 103 0 = 36 ∧ pT.getD 103 0 = 36 ∧ iT.getD 103 [] = [0] := by decide +kernel
theorem cel_104 : kT.getD 104 0 = 14 ∧ lT.getD 104 0 = 36 ∧ pT.getD 104 0 = 36 ∧ iT.getD 104 [] = [0] := by decide +kernel
theorem cel_105 : kT.getD 105 0 = 14 ∧ lT.getD 105 0 = 5 ∧ pT.getD 105 0 = 5 ∧ iT.getD 105 [] = [0] := by decide +kernel
theorem cel_106 : kT.getD 106 0 = 14 ∧ lT.getD 106 0 = 5 ∧ pT.getD 106 0 = 5 ∧ iT.getD 106 [] = [0] := by decide +kernel
theorem cel_107 : kT.getD 107 0 = 14 ∧ lT.getD 107 0 = 4 ∧ pT.getD 107 0 = 4 ∧ iT.getD 107 [] = [0] := by decide +kernel
theorem cel_108 : kT.getD 108 0 = 14 ∧ lT.getD 108 0 = 4 ∧ pT.getD 108 0 = 4 ∧ iT.getD 108 [] = [0] := by decide +kernel
theorem cel_109 : kT.getD 109 0 = 14 ∧ lT.getD 109 0 = 4 ∧ pT.getD 109 0 = 4 ∧ iT.getD 109 [] = [0] := by decide +kernel
theorem cel_110 : kT.getD 110 0 = 14 ∧ lT.getD 110 0 = 6 ∧ pT.getD 110 0 = 6 ∧ iT.getD 110 [] = [0] := by decide +kernel
theorem cel_111 : kT.getD 111 0 = 14 ∧ lT.getD 111 0 = 6 ∧ pT.getD 111 0 = 6 ∧ iT.getD 111 [] = [0] := by decide +kernel
theorem cel_112 : kT.getD 112 0 = 14 ∧ lT.getD 112 0 = 6 ∧ pT.getD 112 0 = 6 ∧ iT.getD 112 [] = [0] := by decide +kernel
theorem cel_113 : kT.getD 113 0 = 14 ∧ lT.getD 113 0 = 6 ∧ pT.getD 113 0 = 6 ∧ iT.getD 113 [] = [0] := by decide +kernel
theorem cel_114 : kT.getD 114 0 = 5 ∧ lT.getD 114 0 = 0 ∧ pT.getD 114 0 = 9 ∧ iT.getD 114 [] = [0, 0, ((114 : Nat) : Int) + 1, ((114 : Nat) : Int) + 2, ((114 : Nat) : Int) + 3, ((114 : Nat) : Int) + 4, ((114 : Nat) : Int) + 5, ((114 : Nat) : Int) + 6, ((114 : Nat) : Int) + 7] := by decide +kernel
theorem cel_115 : kT.getD 115 0 = 14 ∧ lT.getD 115 0 = 5 ∧ pT.getD 115 0 = 5 ∧ iT.getD 115 [] = [0] := by decide +kernel
theorem cel_116 : kT.getD 116 0 = 14 ∧ lT.getD 116 0 = 5 ∧ pT.getD 116 0 = 5 ∧ iT.getD 116 [] = [0] := by decide +kernel
theorem cel_117 : kT.getD 117 0 = 14 ∧ lT.getD 117 0 = 5 ∧ pT.getD 117 0 = 5 ∧ iT.getD 117 [] = [0] := by decide +kernel
theorem cel_118 : kT.getD 118 0 = 14 ∧ lT.getD 118 0 = 4 ∧ pT.getD 118 0 = 4 ∧ iT.getD 118 [] = [-1] := by decide +kernel
theorem cel_119 : kT.getD 119 0 = 14 ∧ lT.getD 119 0 = 4 ∧ pT.getD 119 0 = 4 ∧ iT.getD 119 [] = [-1] := by decide +kernel
theorem cel_120 : kT.getD 120 0 = 14 ∧ lT.getD 120 0 = 4 ∧ pT.getD 120 0 = 4 ∧ iT.getD 120 [] = [0] := by decide +kernel
theorem cel_121 : kT.getD 121 0 = 14 ∧ lT.getD 121 0 = 6 ∧ pT.getD 121 0 = 6 ∧ iT.getD 121 [] = [-1] := by decide +kernel
theorem cel_122 : kT.getD 122 0 = 14 ∧ lT.getD 122 0 = 10 ∧ pT.getD 122 0 = 10 ∧ iT.getD 122 [] = [0] := by decide +kernel
theorem cel_123 : kT.getD 123 0 = 14 ∧ lT.getD 123 0 = 10 ∧ pT.getD 123 0 = 10 ∧ iT.getD 123 [] = [0] := by decide +kernel
theorem cel_124 : kT.getD 124 0 = 14 ∧ lT.getD 124 0 = 10 ∧ pT.getD 124 0 = 10 ∧ iT.getD 124 [] = [0] := by decide +kernel
theorem cel_125 : kT.getD 125 0 = 14 ∧ lT.getD 125 0 = 10 ∧ pT.getD 125 0 = 10 ∧ iT.getD 125 [] = [0] := by decide +kernel
theorem cel_126 : kT.getD 126 0 = 4 ∧ lT.getD 126 0 = 0 ∧ pT.getD 126 0 = 10 ∧ iT.getD 126 [] = [((126 : Nat) : Int) + 1, ((126 : Nat) : Int) + 13, -1, 0, 0, ((126 : Nat) : Int) + 21, ((126 : Nat) : Int) + 22, ((126 : Nat) : Int) + 23, ((126 : Nat) : Int) + 24, 0] := by decide +kernel
theorem cel_127 : kT.getD 127 0 = 8 ∧ lT.getD 127 0 = 0 ∧ pT.getD 127 0 = 19 ∧ iT.getD 127 [] = [0, 0, 0, 0, 0, 0, 0, 0, ((127 : Nat) : Int) + 1, ((127 : Nat) : Int) + 2, ((127 : Nat) : Int) + 3, ((127 : Nat) : Int) + 4, ((127 : Nat) : Int) + 5, ((127 : Nat) : Int) + 6, ((127 : Nat) : Int) + 7, ((127 : Nat) : Int) + 8, ((127 : Nat) : Int) + 9, ((127 : Nat) : Int) + 10, ((127 : Nat) : Int) + 11] := by decide +kernel
theorem cel_128 : kT.getD 128 0 = 14 ∧ lT.getD 128 0 = 36 ∧ pT.getD 128 0 = 36 ∧ iT.getD 128 [] = [0] := by decide +kernel
theorem cel_129 : kT.getD 129 0 = 14 ∧ lT.getD 129 0 = 36 ∧ pT.getD 129 0 = 36 ∧ iT.getD 129 [] = [0] := by decide +kernel
theorem cel_130 : kT.getD 130 0 = 14 ∧ lT.getD 130 0 = 5 ∧ pT.getD 130 0 = 5 ∧ iT.getD 130 [] = [0] := by decide +kernel
theorem cel_131 : kT.getD 131 0 = 14 ∧ lT.getD 131 0 = 5 ∧ pT.getD 131 0 = 5 ∧ iT.getD 131 [] = [0] := by decide +kernel
theorem cel_132 : kT.getD 132 0 = 14 ∧ lT.getD 132 0 = 4 ∧ pT.getD 132 0 = 4 ∧ iT.getD 132 [] = [0] := by decide +kernel
theorem cel_133 : kT.getD 133 0 = 14 ∧ lT.getD 133 0 = 4 ∧ pT.getD 133 0 = 4 ∧ iT.getD 133 [] = [0] := by decide +kernel
theorem cel_134 : kT.getD 134 0 = 14 ∧ lT.getD 134 0 = 4 ∧ pT.getD 134 0 = 4 ∧ iT.getD 134 [] = [0] := by decide +kernel
theorem cel_135 : kT.getD 135 0 = 14 ∧ lT.getD 135 0 = 6 ∧ pT.getD 135 0 = 6 ∧ iT.getD 135 [] = [0] := by decide +kernel
theorem cel_136 : kT.getD 136 0 = 14 ∧ lT.getD 136 0 = 6 ∧ pT.getD 136 0 = 6 ∧ iT.getD 136 [] = [0] := by decide +kernel
theorem cel_137 : kT.getD 137 0 = 14 ∧ lT.getD 137 0 = 6 ∧ pT.getD 137 0 = 6 ∧ iT.getD 137 [] = [0] := by decide +kernel
theorem cel_138 : kT.getD 138 0 = 14 ∧ lT.getD 138 0 = 6 ∧ pT.getD 138 0 = 6 ∧ iT.getD 138 [] = [0] := by decide +kernel
theorem cel_139 : kT.getD 139 0 = 5 ∧ lT.getD 139 0 = 0 ∧ pT.getD 139 0 = 9 ∧ iT.getD 139 [] = [0, 0, ((139 : Nat) : Int) + 1, ((139 : Nat) : Int) + 2, ((139 : Nat) : Int) + 3, ((139 : Nat) : Int) + 4, ((139 : Nat) : Int) + 5, ((139 : Nat) : Int) + 6, ((139 : Nat) : Int) + 7] := by decide +kernel
theorem cel_140 : kT.getD 140 0 = 14 ∧ lT.getD 140 0 = 5 ∧ pT.getD 140 0 = 5 ∧ iT.getD 140 [] = [0] := by decide +kernel
theorem cel_141 : kT.getD 141 0 = 14 ∧ lT.getD 141 0 = 5 ∧ pT.getD 141 0 = 5 ∧ iT.getD 141 [] = [0] := by decide +kernel
theorem cel_142 : kT.getD 142 0 = 14 ∧ lT.getD 142 0 = 5 ∧ pT.getD 142 0 = 5 ∧ iT.getD 142 [] = [0] := by decide +kernel
theorem cel_143 : kT.getD 143 0 = 14 ∧ lT.getD 143 0 = 4 ∧ pT.getD 143 0 = 4 ∧ iT.getD 143 [] = [-1] := by decide +kernel
theorem cel_144 : kT.getD 144 0 = 14 ∧ lT.getD 144 0 = 4 ∧ pT.getD 144 0 = 4 ∧ iT.getD 144 [] = [-1] := by decide +kernel
theorem cel_145 : kT.getD 145 0 = 14 ∧ lT.getD 145 0 = 4 ∧ pT.getD 145 0 = 4 ∧ iT.getD 145 [] = [0] := by decide +kernel
theorem cel_146 : kT.getD 146 0 = 14 ∧ lT.getD 146 0 = 6 ∧ pT.getD 146 0 = 6 ∧ iT.getD 146 [] = [-1] := by decide +kernel
theorem cel_147 : kT.getD 147 0 = 14 ∧ lT.getD 147 0 = 10 ∧ pT.getD 147 0 = 10 ∧ iT.getD 147 [] = [0] := by decide +kernel
theorem cel_148 : kT.getD 148 0 = 14 ∧ lT.getD 148 0 = 10 ∧ pT.getD 148 0 = 10 ∧ iT.getD 148 [] = [0] := by decide +kernel
theorem cel_149 : kT.getD 149 0 = 14 ∧ lT.getD 149 0 = 10 ∧ pT.getD 149 0 = 10 ∧ iT.getD 149 [] = [0] := by decide +kernel
theorem cel_150 : kT.getD 150 0 = 14 ∧ lT.getD 150 0 = 10 ∧ pT.getD 150 0 = 10 ∧ iT.getD 150 [] = [0] := by decide +kernel
theorem cel_151 : kT.getD 151 0 = 4 ∧ lT.getD 151 0 = 0 ∧ pT.getD 151 0 = 10 ∧ iT.getD 151 [] = [((151 : Nat) : Int) + 1, ((151 : Nat) : Int) + 13, -1, 0, 0, ((151 : Nat) : Int) + 21, ((151 : Nat) : Int) + 22, ((151 : Nat) : Int) + 23, ((151 : Nat) : Int) + 24, 0] := by decide +kernel
theorem cel_152 : kT.getD 152 0 = 8 ∧ lT.getD 152 0 = 0 ∧ pT.getD 152 0 = 19 ∧ iT.getD 152 [] = [0, 0, 0, 0, 0, 0, 0, 0, ((152 : Nat) : Int) + 1, ((152 : Nat) : Int) + 2, ((152 : Nat) : Int) + 3, ((152 : Nat) : Int) + 4, ((152 : Nat) : Int) + 5, ((152 : Nat) : Int) + 6, ((152 : Nat) : Int) + 7, ((152 : Nat) : Int) + 8, ((152 : Nat) : Int) + 9, ((152 : Nat) : Int) + 10, ((152 : Nat) : Int) + 11] := by decide +kernel
theorem cel_153 : kT.getD 153 0 = 14 ∧ lT.getD 153 0 = 36 ∧ pT.getD 153 0 = 36 ∧ iT.getD 153 [] = [0] := by decide +kernel
theorem cel_154 : kT.getD 154 0 = 14 ∧ lT.getD 154 0 = 36 ∧ pT.getD 154 0 = 36 ∧ iT.getD 154 [] = [0] := by decide +kernel
theorem cel_155 : kT.getD 155 0 = 14 ∧ lT.getD 155 0 = 5 ∧ pT.getD 155 0 = 5 ∧ iT.getD 155 [] = [0] := by decide +kernel
theorem cel_156 : kT.getD 156 0 = 14 ∧ lT.getD 156 0 = 5 ∧ pT.getD 156 0 = 5 ∧ iT.getD 156 [] = [0] := by decide +kernel
theorem cel_157 : kT.getD 157 0 = 14 ∧ lT.getD 157 0 = 4 ∧ pT.getD 157 0 = 4 ∧ iT.getD 157 [] = [0] := by decide +kernel
theorem cel_158 : kT.getD 158 0 = 14 ∧ lT.getD 158 0 = 4 ∧ pT.getD 158 0 = 4 ∧ iT.getD 158 [] = [0] := by decide +kernel
theorem cel_159 : kT.getD 159 0 = 14 ∧ lT.getD 159 0 = 4 ∧ pT.getD 159 0 = 4 ∧ iT.getD 159 [] = [0] := by decide +kernel
theorem cel_160 : kT.getD 160 0 = 14 ∧ lT.getD 160 0 = 6 ∧ pT.getD 160 0 = 6 ∧ iT.getD 160 [] = [0] := by decide +kernel
theorem cel_161 : kT.getD 161 0 = 14 ∧ lT.getD 161 0 = 6 ∧ pT.getD 161 0 = 6 ∧ iT.getD 161 [] = [0] := by decide +kernel
theorem cel_162 : kT.getD 162 0 = 14 ∧ lT.getD 162 0 = 6 ∧ pT.getD 162 0 = 6 ∧ iT.getD 162 [] = [0] := by decide +kernel
theorem cel_163 : kT.getD 163 0 = 14 ∧ lT.getD 163 0 = 6 ∧ pT.getD 163 0 = 6 ∧ iT.getD 163 [] = [0] := by decide +kernel
theorem cel_164 : kT.getD 164 0 = 5 ∧ lT.getD 164 0 = 0 ∧ pT.getD 164 0 = 9 ∧ iT.getD 164 [] = [0, 0, ((164 : Nat) : Int) + 1, ((164 : Nat) : Int) + 2, ((164 : Nat) : Int) + 3, ((164 : Nat) : Int) + 4, ((164 : Nat) : Int) + 5, ((164 : Nat) : Int) + 6, ((164 : Nat) : Int) + 7] := by decide +kernel
theorem cel_165 : kT.getD 165 0 = 14 ∧ lT.getD 165 0 = 5 ∧ pT.getD 165 0 = 5 ∧ iT.getD 165 [] = [0] := by decide +kernel
theorem cel_166 : kT.getD 166 0 = 14 ∧ lT.getD 166 0 = 5 ∧ pT.getD 166 0 = 5 ∧ iT.getD 166 [] = [0] := by decide +kernel
theorem cel_167 : kT.getD 167 0 = 14 ∧ lT.getD 167 0 = 5 ∧ pT.getD 167 0 = 5 ∧ iT.getD 167 [] = [0] := by decide +kernel
theorem cel_168 : kT.getD 168 0 = 14 ∧ lT.getD 168 0 = 4 ∧ pT.getD 168 0 = 4 ∧ iT.getD 168 [] = [-1] := by decide +kernel
theorem cel_169 : kT.getD 169 0 = 14 ∧ lT.getD 169 0 = 4 ∧ pT.getD 169 0 = 4 ∧ iT.getD 169 [] = [-1] := by decide +kernel
theorem cel_170 : kT.getD 170 0 = 14 ∧ lT.getD 170 0 = 4 ∧ pT.getD 170 0 = 4 ∧ iT.getD 170 [] = [0] := by decide +kernel
theorem cel_171 : kT.getD 171 0 = 14 ∧ lT.getD 171 0 = 6 ∧ pT.getD 171 0 = 6 ∧ iT.getD 171 [] = [-1] := by decide +kernel
theorem cel_172 : kT.getD 172 0 = 14 ∧ lT.getD 172 0 = 10 ∧ pT.getD 172 0 = 10 ∧ iT.getD 172 [] = [0] := by decide +kernel
theorem cel_173 : kT.getD 173 0 = 14 ∧ lT.getD 173 0 = 10 ∧ pT.getD 173 0 = 10 ∧ iT.getD 173 [] = [0] := by decide +kernel
theorem cel_174 : kT.getD 174 0 = 14 ∧ lT.getD 174 0 = 10 ∧ pT.getD 174 0 = 10 ∧ iT.getD 174 [] = [0] := by decide +kernel
theorem cel_175 : kT.getD 175 0 = 14 ∧ lT.getD 175 0 = 10 ∧ pT.getD 175 0 = 10 ∧ iT.getD 175 [] = [0] := by decide +kernel
theorem cel_176 : kT.getD 176 0 = 5 ∧ lT.getD 176 0 = 0 ∧ pT.getD 176 0 = 9 ∧ iT.getD 176 [] = [0, 0, ((176 : Nat) : Int) + 1, ((176 : Nat) : Int) + 2, ((176 : Nat) : Int) + 3, ((176 : Nat) : Int) + 4, ((176 : Nat) : Int) + 5, ((176 : Nat) : Int) + 6, ((176 : Nat) : Int) + 7] := by decide +kernel
theorem cel_177 : kT.getD 177 0 = 14 ∧ lT.getD 177 0 = 5 ∧ pT.getD 177 0 = 5 ∧ iT.getD 177 [] = [0] := by decide +kernel
theorem cel_178 : kT.getD 178 0 = 14 ∧ lT.getD 178 0 = 5 ∧ pT.getD 178 0 = 5 ∧ iT.getD 178 [] = [0] := by decide +kernel
theorem cel_179 : kT.getD 179 0 = 14 ∧ lT.getD 179 0 = 5 ∧ pT.getD 179 0 = 5 ∧ iT.getD 179 [] = [0] := by decide +kernel
theorem cel_180 : kT.getD 180 0 = 14 ∧ lT.getD 180 0 = 4 ∧ pT.getD 180 0 = 4 ∧ iT.getD 180 [] = [-1] := by decide +kernel
theorem cel_181 : kT.getD 181 0 = 14 ∧ lT.getD 181 0 = 4 ∧ pT.getD 181 0 = 4 ∧ iT.getD 181 [] = [-1] := by decide +kernel
theorem cel_182 : kT.getD 182 0 = 14 ∧ lT.getD 182 0 = 4 ∧ pT.getD 182 0 = 4 ∧ iT.getD 182 [] = [0] := by decide +kernel
theorem cel_183 : kT.getD 183 0 = 14 ∧ lT.getD 183 0 = 6 ∧ pT.getD 183 0 = 6 ∧ iT.getD 183 [] = [-1] := by decide +kernel
theorem cel_184 : kT.getD 184 0 = 5 ∧ lT.getD 184 0 = 0 ∧ pT.getD 184 0 = 9 ∧ iT.getD 184 [] = [0, 0, ((184 : Nat) : Int) + 1, ((184 : Nat) : Int) + 2, ((184 : Nat) : Int) + 3, ((184 : Nat) : Int) + 4, ((184 : Nat) : Int) + 5, ((184 : Nat) : Int) + 6, ((184 : Nat) : Int) + 7] := by decide +kernel
theorem cel_185 : kT.getD 185 0 = 14 ∧ lT.getD 185 0 = 5 ∧ pT.getD 185 0 = 5 ∧ iT.getD 185 [] = [0] := by decide +kernel
theorem cel_186 : kT.getD 186 0 = 14 ∧ lT.getD 186 0 = 5 ∧ pT.getD 186 0 = 5 ∧ iT.getD 186 [] = [0] := by decide +kernel
theorem cel_187 : kT.getD 187 0 = 14 ∧ lT.getD 187 0 = 5 ∧ pT.getD 187 0 = 5 ∧ iT.getD 187 [] = [0] := by decide +kernel
theorem cel_188 : kT.getD 188 0 = 14 ∧ lT.getD 188 0 = 4 ∧ pT.getD 188 0 = 4 ∧ iT.getD 188 [] = [-1] := by decide +kernel
theorem cel_189 : kT.getD 189 0 = 14 ∧ lT.getD 189 0 = 4 ∧ pT.getD 189 0 = 4 ∧ iT.getD 189 [] = [-1] := by decide +kernel
theorem cel_190 : kT.getD 190 0 = 14 ∧ lT.getD 190 0 = 4 ∧ pT.getD 190 0 = 4 ∧ iT.getD 190 [] = [0] := by decide +kernel
theorem cel_191 : kT.getD 191 0 = 14 ∧ lT.getD 191 0 = 6 ∧ pT.getD 191 0 = 6 ∧ iT.getD 191 [] = [-1] := by decide +kernel
theorem cel_192 : kT.getD 192 0 = 5 ∧ lT.getD 192 0 = 0 ∧ pT.getD 192 0 = 9 ∧ iT.getD 192 [] = [0, 0, ((192 : Nat) : Int) + 1, ((192 : Nat) : Int) + 2, ((192 : Nat) : Int) + 3, ((192 : Nat) : Int) + 4, ((192 : Nat) : Int) + 5, ((192 : Nat) : Int) + 6, ((192 : Nat) : Int) + 7] := by decide +kernel
theorem cel_193 : kT.getD 193 0 = 14 ∧ lT.getD 193 0 = 5 ∧ pT.getD 193 0 = 5 ∧ iT.getD 193 [] = [0] := by decide +kernel
theorem cel_194 : kT.getD 194 0 = 14 ∧ lT.getD 194 0 = 5 ∧ pT.getD 194 0 = 5 ∧ iT.getD 194 [] = [0] := by decide +kernel
theorem cel_195 : kT.getD 195 0 = 14 ∧ lT.getD 195 0 = 5 ∧ pT.getD 195 0 = 5 ∧ iT.getD 195 [] = [0] := by decide +kernel
theorem cel_196 : kT.getD 196 0 = 14 ∧ lT.getD 196 0 = 4 ∧ pT.getD 196 0 = 4 ∧ iT.getD 196 [] = [-1] := by decide +kernel
theorem cel_197 : kT.getD 197 0 = 14 ∧ lT.getD 197 0 = 4 ∧ pT.getD 197 0 = 4 ∧ iT.getD 197 [] = [-1] := by decide +kernel
theorem cel_198 : kT.getD 198 0 = 14 ∧ lT.getD 198 0 = 4 ∧ pT.getD 198 0 = 4 ∧ iT.getD 198 [] = [0] := by decide +kernel
theorem cel_199 : kT.getD 199 0 = 14 ∧ lT.getD 199 0 = 6 ∧ pT.getD 199 0 = 6 ∧ iT.getD 199 [] = [-1] := by decide +kernel
theorem cel_200 : kT.getD 200 0 = 5 ∧ lT.getD 200 0 = 0 ∧ pT.getD 200 0 = 9 ∧ iT.getD 200 [] = [0, 0, ((200 : Nat) : Int) + 1, ((200 : Nat) : Int) + 2, ((200 : Nat) : Int) + 3, ((200 : Nat) : Int) + 4, ((200 : Nat) : Int) + 5, ((200 : Nat) : Int) + 6, ((200 : Nat) : Int) + 7] := by decide +kernel
theorem cel_201 : kT.getD 201 0 = 14 ∧ lT.getD 201 0 = 5 ∧ pT.getD 201 0 = 5 ∧ iT.getD 201 [] = [0] := by decide +kernel
theorem cel_202 : kT.getD 202 0 = 14 ∧ lT.getD 202 0 = 5 ∧ pT.getD 202 0 = 5 ∧ iT.getD 202 [] = [0] := by decide +kernel
theorem cel_203 : kT.getD 203 0 = 14 ∧ lT.getD 203 0 = 5 ∧ pT.getD 203 0 = 5 ∧ iT.getD 203 [] = [0] := by decide +kernel
theorem cel_204 : kT.getD 204 0 = 14 ∧ lT.getD 204 0 = 4 ∧ pT.getD 204 0 = 4 ∧ iT.getD 204 [] = [-1] := by decide +kernel
theorem cel_205 : kT.getD 205 0 = 14 ∧ lT.getD 205 0 = 4 ∧ pT.getD 205 0 = 4 ∧ iT.getD 205 [] = [-1] := by decide +kernel
theorem cel_206 : kT.getD 206 0 = 14 ∧ lT.getD 206 0 = 4 ∧ pT.getD 206 0 = 4 ∧ iT.getD 206 [] = [0] := by decide +kernel
theorem cel_207 : kT.getD 207 0 = 14 ∧ lT.getD 207 0 = 6 ∧ pT.getD 207 0 = 6 ∧ iT.getD 207 [] = [-1] := by decide +kernel
theorem cel_208 : kT.getD 208 0 = 5 ∧ lT.getD 208 0 = 0 ∧ pT.getD 208 0 = 9 ∧ iT.getD 208 [] = [0, 0, ((208 : Nat) : Int) + 1, ((208 : Nat) : Int) + 2, ((208 : Nat) : Int) + 3, ((208 : Nat) : Int) + 4, ((208 : Nat) : Int) + 5, ((208 : Nat) : Int) + 6, ((208 : Nat) : Int) + 7] := by decide +kernel
theorem cel_209 : kT.getD 209 0 = 14 ∧ lT.getD 209 0 = 5 ∧ pT.getD 209 0 = 5 ∧ iT.getD 209 [] = [0] := by decide +kernel
theorem cel_210 : kT.getD 210 0 = 14 ∧ lT.getD 210 0 = 5 ∧ pT.getD 210 0 = 5 ∧ iT.getD 210 [] = [0] := by decide +kernel
theorem cel_211 : kT.getD 211 0 = 14 ∧ lT.getD 211 0 = 5 ∧ pT.getD 211 0 = 5 ∧ iT.getD 211 [] = [0] := by decide +kernel
theorem cel_212 : kT.getD 212 0 = 14 ∧ lT.getD 212 0 = 4 ∧ pT.getD 212 0 = 4 ∧ iT.getD 212 [] = [-1] := by decide +kernel
theorem cel_213 : kT.getD 213 0 = 14 ∧ lT.getD 213 0 = 4 ∧ pT.getD 213 0 = 4 ∧ iT.getD 213 [] = [-1] := by decide +kernel
theorem cel_214 : kT.getD 214 0 = 14 ∧ lT.getD 214 0 = 4 ∧ pT.getD 214 0 = 4 ∧ iT.getD 214 [] = [0] := by decide +kernel
theorem cel_215 : kT.getD 215 0 = 14 ∧ lT.getD 215 0 = 6 ∧ pT.getD 215 0 = 6 ∧ iT.getD 215 [] = [-1] := by decide +kernel
theorem cel_216 : kT.getD 216 0 = 5 ∧ lT.getD 216 0 = 0 ∧ pT.getD 216 0 = 9 ∧ iT.getD 216 [] = [0, 0, ((216 : Nat) : Int) + 1, ((216 : Nat) : Int) + 2, ((216 : Nat) : Int) + 3, ((216 : Nat) : Int) + 4, ((216 : Nat) : Int) + 5, ((216 : Nat) : Int) + 6, ((216 : Nat) : Int) + 7] := by decide +kernel
theorem cel_217 : kT.getD 217 0 = 14 ∧ lT.getD 217 0 = 5 ∧ pT.getD 217 0 = 5 ∧ iT.getD 217 [] = [0] := by decide +kernel
theorem cel_218 : kT.getD 218 0 = 14 ∧ lT.getD 218 0 = 5 ∧ pT.getD 218 0 = 5 ∧ iT.getD 218 [] = [0] := by decide +kernel
theorem cel_219 : kT.getD 219 0 = 14 ∧ lT.getD 219 0 = 5 ∧ pT.getD 219 0 = 5 ∧ iT.getD 219 [] = [0] := by decide +kernel
theorem cel_220 : kT.getD 220 0 = 14 ∧ lT.getD 220 0 = 4 ∧ pT.getD 220 0 = 4 ∧ iT.getD 220 [] = [-1] := by decide +kernel
theorem cel_221 : kT.getD 221 0 = 14 ∧ lT.getD 221 0 = 4 ∧ pT.getD 221 0 = 4 ∧ iT.getD 221 [] = [-1] := by decide +kernel
theorem cel_222 : kT.getD 222 0 = 14 ∧ lT.getD 222 0 = 4 ∧ pT.getD 222 0 = 4 ∧ iT.getD 222 [] = [0] := by decide +kernel
theorem cel_223 : kT.getD 223 0 = 14 ∧ lT.getD 223 0 = 6 ∧ pT.getD 223 0 = 6 ∧ iT.getD 223 [] = [-1] := by decide +kernel
theorem cel_224 : kT.getD 224 0 = 5 ∧ lT.getD 224 0 = 0 ∧ pT.getD 224 0 = 9 ∧ iT.getD 224 [] = [0, 0, ((224 : Nat) : Int) + 1, ((224 : Nat) : Int) + 2, ((224 : Nat) : Int) + 3, ((224 : Nat) : Int) + 4, ((224 : Nat) : Int) + 5, ((224 : Nat) : Int) + 6, ((224 : Nat) : Int) + 7] := by decide +kernel
theorem cel_225 : kT.getD 225 0 = 14 ∧ lT.getD 225 0 = 5 ∧ pT.getD 225 0 = 5 ∧ iT.getD 225 [] = [0] := by decide +kernel
theorem cel_226 : kT.getD 226 0 = 14 ∧ lT.getD 226 0 = 5 ∧ pT.getD 226 0 = 5 ∧ iT.getD 226 [] = [0] := by decide +kernel
theorem cel_227 : kT.getD 227 0 = 14 ∧ lT.getD 227 0 = 5 ∧ pT.getD 227 0 = 5 ∧ iT.getD 227 [] = [0] := by decide +kernel
theorem cel_228 : kT.getD 228 0 = 14 ∧ lT.getD 228 0 = 4 ∧ pT.getD 228 0 = 4 ∧ iT.getD 228 [] = [-1] := by decide +kernel
theorem cel_229 : kT.getD 229 0 = 14 ∧ lT.getD 229 0 = 4 ∧ pT.getD 229 0 = 4 ∧ iT.getD 229 [] = [-1] := by decide +kernel
theorem cel_230 : kT.getD 230 0 = 14 ∧ lT.getD 230 0 = 4 ∧ pT.getD 230 0 = 4 ∧ iT.getD 230 [] = [0] := by decide +kernel
theorem cel_231 : kT.getD 231 0 = 14 ∧ lT.getD 231 0 = 6 ∧ pT.getD 231 0 = 6 ∧ iT.getD 231 [] = [-1] := by decide +kernel
theorem cel_232 : kT.getD 232 0 = 5 ∧ lT.getD 232 0 = 0 ∧ pT.getD 232 0 = 9 ∧ iT.getD 232 [] = [0, 0, ((232 : Nat) : Int) + 1, ((232 : Nat) : Int) + 2, ((232 : Nat) : Int) + 3, ((232 : Nat) : Int) + 4, ((232 : Nat) : Int) + 5, ((232 : Nat) : Int) + 6, ((232 : Nat) : Int) + 7] := by decide +kernel
theorem cel_233 : kT.getD 233 0 = 14 ∧ lT.getD 233 0 = 5 ∧ pT.getD 233 0 = 5 ∧ iT.getD 233 [] = [0] := by decide +kernel
theorem cel_234 : kT.getD 234 0 = 14 ∧ lT.getD 234 0 = 5 ∧ pT.getD 234 0 = 5 ∧ iT.getD 234 [] = [0] := by decide +kernel
theorem cel_235 : kT.getD 235 0 = 14 ∧ lT.getD 235 0 = 5 ∧ pT.getD 235 0 = 5 ∧ iT.getD 235 [] = [0] := by decide +kernel
theorem cel_236 : kT.getD 236 0 = 14 ∧ lT.getD 236 0 = 4 ∧ pT.getD 236 0 = 4 ∧ iT.getD 236 [] = [-1] := by decide +kernel
theorem cel_237 : kT.getD 237 0 = 14 ∧ lT.getD 237 0 = 4 ∧ pT.getD 237 0 = 4 ∧ iT.getD 237 [] = [-1] := by decide +kernel
theorem cel_238 : kT.getD 238 0 = 14 ∧ lT.getD 238 0 = 4 ∧ pT.getD 238 0 = 4 ∧ iT.getD 238 [] = [0] := by decide +kernel
theorem cel_239 : kT.getD 239 0 = 14 ∧ lT.getD 239 0 = 6 ∧ pT.getD 239 0 = 6 ∧ iT.getD 239 [] = [-1] := by decide +kernel
theorem cel_240 : kT.getD 240 0 = 5 ∧ lT.getD 240 0 = 0 ∧ pT.getD 240 0 = 9 ∧ iT.getD 240 [] = [0, 0, ((240 : Nat) : Int) + 1, ((240 : Nat) : Int) + 2, ((240 : Nat) : Int) + 3, ((240 : Nat) : Int) + 4, ((240 : Nat) : Int) + 5, ((240 : Nat) : Int) + 6, ((240 : Nat) : Int) + 7] := by decide +kernel
theorem cel_241 : kT.getD 241 0 = 14 ∧ lT.getD 241 0 = 5 ∧ pT.getD 241 0 = 5 ∧ iT.getD 241 [] = [0] := by decide +kernel
theorem cel_242 : kT.getD 242 0 = 14 ∧ lT.getD 242 0 = 5 ∧ pT.getD 242 0 = 5 ∧ iT.getD 242 [] = [0] := by decide +kernel
theorem cel_243 : kT.getD 243 0 = 14 ∧ lT.getD 243 0 = 5 ∧ pT.getD 243 0 = 5 ∧ iT.getD 243 [] = [0] := by decide +kernel
theorem cel_244 : kT.getD 244 0 = 14 ∧ lT.getD 244 0 = 4 ∧ pT.getD 244 0 = 4 ∧ iT.getD 244 [] = [-1] := by decide +kernel
theorem cel_245 : kT.getD 245 0 = 14 ∧ lT.getD 245 0 = 4 ∧ pT.getD 245 0 = 4 ∧ iT.getD 245 [] = [-1] := by decide +kernel
theorem cel_246 : kT.getD 246 0 = 14 ∧ lT.getD 246 0 = 4 ∧ pT.getD 246 0 = 4 ∧ iT.getD 246 [] = [0] := by decide +kernel
theorem cel_247 : kT.getD 247 0 = 14 ∧ lT.getD 247 0 = 6 ∧ pT.getD 247 0 = 6 ∧ iT.getD 247 [] = [-1] := by decide +kernel
theorem cel_248 : kT.getD 248 0 = 5 ∧ lT.getD 248 0 = 0 ∧ pT.getD 248 0 = 9 ∧ iT.getD 248 [] = [0, 0, ((248 : Nat) : Int) + 1, ((248 : Nat) : Int) + 2, ((248 : Nat) : Int) + 3, ((248 : Nat) : Int) + 4, ((248 : Nat) : Int) + 5, ((248 : Nat) : Int) + 6, ((248 : Nat) : Int) + 7] := by decide +kernel
theorem cel_249 : kT.getD 249 0 = 14 ∧ lT.getD 249 0 = 5 ∧ pT.getD 249 0 = 5 ∧ iT.getD 249 [] = [0] := by decide +kernel
theorem cel_250 : kT.getD 250 0 = 14 ∧ lT.getD 250 0 = 5 ∧ pT.getD 250 0 = 5 ∧ iT.getD 250 [] = [0] := by decide +kernel
theorem cel_251 : kT.getD 251 0 = 14 ∧ lT.getD 251 0 = 5 ∧ pT.getD 251 0 = 5 ∧ iT.getD 251 [] = [0] := by decide +kernel
theorem cel_252 : kT.getD 252 0 = 14 ∧ lT.getD 252 0 = 4 ∧ pT.getD 252 0 = 4 ∧ iT.getD 252 [] = [-1] := by decide +kernel
theorem cel_253 : kT.getD 253 0 = 14 ∧ lT.getD 253 0 = 4 ∧ pT.getD 253 0 = 4 ∧ iT.getD 253 [] = [-1] := by decide +kernel
theorem cel_254 : kT.getD 254 0 = 14 ∧ lT.getD 254 0 = 4 ∧ pT.getD 254 0 = 4 ∧ iT.getD 254 [] = [0] := by decide +kernel
theorem cel_255 : kT.getD 255 0 = 14 ∧ lT.getD 255 0 = 6 ∧ pT.getD 255 0 = 6 ∧ iT.getD 255 [] = [-1] := by decide +kernel
theorem cel_256 : kT.getD 256 0 = 5 ∧ lT.getD 256 0 = 0 ∧ pT.getD 256 0 = 9 ∧ iT.getD 256 [] = [0, 0, ((256 : Nat) : Int) + 1, ((256 : Nat) : Int) + 2, ((256 : Nat) : Int) + 3, ((256 : Nat) : Int) + 4, ((256 : Nat) : Int) + 5, ((256 : Nat) : Int) + 6, ((256 : Nat) : Int) + 7] := by decide +kernel
theorem cel_257 : kT.getD 257 0 = 14 ∧ lT.getD 257 0 = 5 ∧ pT.getD 257 0 = 5 ∧ iT.getD 257 [] = [0] := by decide +kernel
theorem cel_258 : kT.getD 258 0 = 14 ∧ lT.getD 258 0 = 5 ∧ pT.getD 258 0 = 5 ∧ iT.getD 258 [] = [0] := by decide +kernel
theorem cel_259 : kT.getD 259 0 = 14 ∧ lT.getD 259 0 = 5 ∧ pT.getD 259 0 = 5 ∧ iT.getD 259 [] = [0] := by decide +kernel
theorem cel_260 : kT.getD 260 0 = 14 ∧ lT.getD 260 0 = 4 ∧ pT.getD 260 0 = 4 ∧ iT.getD 260 [] = [-1] := by decide +kernel
theorem cel_261 : kT.getD 261 0 = 14 ∧ lT.getD 261 0 = 4 ∧ pT.getD 261 0 = 4 ∧ iT.getD 261 [] = [-1] := by decide +kernel
theorem cel_262 : kT.getD 262 0 = 14 ∧ lT.getD 262 0 = 4 ∧ pT.getD 262 0 = 4 ∧ iT.getD 262 [] = [0] := by decide +kernel
theorem cel_263 : kT.getD 263 0 = 14 ∧ lT.getD 263 0 = 6 ∧ pT.getD 263 0 = 6 ∧ iT.getD 263 [] = [-1] := by decide +kernel
theorem cel_264 : kT.getD 264 0 = 5 ∧ lT.getD 264 0 = 0 ∧ pT.getD 264 0 = 9 ∧ iT.getD 264 [] = [0, 0, ((264 : Nat) : Int) + 1, ((264 : Nat) : Int) + 2, ((264 : Nat) : Int) + 3, ((264 : Nat) : Int) + 4, ((264 : Nat) : Int) + 5, ((264 : Nat) : Int) + 6, ((264 : Nat) : Int) + 7] := by decide +kernel
theorem cel_265 : kT.getD 265 0 = 14 ∧ lT.getD 265 0 = 5 ∧ pT.getD 265 0 = 5 ∧ iT.getD 265 [] = [0] := by decide +kernel
theorem cel_266 : kT.getD 266 0 = 14 ∧ lT.getD 266 0 = 5 ∧ pT.getD 266 0 = 5 ∧ iT.getD 266 [] = [0] := by decide +kernel
theorem cel_267 : kT.getD 267 0 = 14 ∧ lT.getD 267 0 = 5 ∧ pT.getD 267 0 = 5 ∧ iT.getD 267 [] = [0] := by decide +kernel
theorem cel_268 : kT.getD 268 0 = 14 ∧ lT.getD 268 0 = 4 ∧ pT.getD 268 0 = 4 ∧ iT.getD 268 [] = [-1] := by decide +kernel
theorem cel_269 : kT.getD 269 0 = 14 ∧ lT.getD 269 0 = 4 ∧ pT.getD 269 0 = 4 ∧ iT.getD 269 [] = [-1] := by decide +kernel
theorem cel_270 : kT.getD 270 0 = 14 ∧ lT.getD 270 0 = 4 ∧ pT.getD 270 0 = 4 ∧ iT.getD 270 [] = [0] := by decide +kernel
theorem cel_271 : kT.getD 271 0 = 14 ∧ lT.getD 271 0 = 6 ∧ pT.getD 271 0 = 6 ∧ iT.getD 271 [] = [-1] := by decide +kernel
theorem cel_272 : kT.getD 272 0 = 5 ∧ lT.getD 272 0 = 0 ∧ pT.getD 272 0 = 9 ∧ iT.getD 272 [] = [0, 0, ((272 : Nat) : Int) + 1, ((272 : Nat) : Int) + 2, ((272 : Nat) : Int) + 3, ((272 : Nat) : Int) + 4, ((272 : Nat) : Int) + 5, ((272 : Nat) : Int) + 6, ((272 : Nat) : Int) + 7] := by decide +kernel
theorem cel_273 : kT.getD 273 0 = 14 ∧ lT.getD 273 0 = 5 ∧ pT.getD 273 0 = 5 ∧ iT.getD 273 [] = [0] := by decide +kernel
theorem cel_274 : kT.getD 274 0 = 14 ∧ lT.getD 274 0 = 5 ∧ pT.getD 274 0 = 5 ∧ iT.getD 274 [] = [0] := by decide +kernel
theorem cel_275 : kT.getD 275 0 = 14 ∧ lT.getD 275 0 = 5 ∧ pT.getD 275 0 = 5 ∧ iT.getD 275 [] = [0] := by decide +kernel
theorem cel_276 : kT.getD 276 0 = 14 ∧ lT.getD 276 0 = 4 ∧ pT.getD 276 0 = 4 ∧ iT.getD 276 [] = [-1] := by decide +kernel
theorem cel_277 : kT.getD 277 0 = 14 ∧ lT.getD 277 0 = 4 ∧ pT.getD 277 0 = 4 ∧ iT.getD 277 [] = [-1] := by decide +kernel
theorem cel_278 : kT.getD 278 0 = 14 ∧ lT.getD 278 0 = 4 ∧ pT.getD 278 0 = 4 ∧ iT.getD 278 [] = [0] := by decide +kernel
theorem cel_279 : kT.getD 279 0 = 14 ∧ lT.getD 279 0 = 6 ∧ pT.getD 279 0 = 6 ∧ iT.getD 279 [] = [-1] := by decide +kernel
theorem cel_280 : kT.getD 280 0 = 5 ∧ lT.getD 280 0 = 0 ∧ pT.getD 280 0 = 9 ∧ iT.getD 280 [] = [0, 0, ((280 : Nat) : Int) + 1, ((280 : Nat) : Int) + 2, ((280 : Nat) : Int) + 3, ((280 : Nat) : Int) + 4, ((280 : Nat) : Int) + 5, ((280 : Nat) : Int) + 6, ((280 : Nat) : Int) + 7] := by decide +kernel
theorem cel_281 : kT.getD 281 0 = 14 ∧ lT.getD 281 0 = 5 ∧ pT.getD 281 0 = 5 ∧ iT.getD 281 [] = [0] := by decide +kernel
theorem cel_282 : kT.getD 282 0 = 14 ∧ lT.getD 282 0 = 5 ∧ pT.getD 282 0 = 5 ∧ iT.getD 282 [] = [0] := by decide +kernel
theorem cel_283 : kT.getD 283 0 = 14 ∧ lT.getD 283 0 = 5 ∧ pT.getD 283 0 = 5 ∧ iT.getD 283 [] = [0] := by decide +kernel
theorem cel_284 : kT.getD 284 0 = 14 ∧ lT.getD 284 0 = 4 ∧ pT.getD 284 0 = 4 ∧ iT.getD 284 [] = [-1] := by decide +kernel
theorem cel_285 : kT.getD 285 0 = 14 ∧ lT.getD 285 0 = 4 ∧ pT.getD 285 0 = 4 ∧ iT.getD 285 [] = [-1] := by decide +kernel
theorem cel_286 : kT.getD 286 0 = 14 ∧ lT.getD 286 0 = 4 ∧ pT.getD 286 0 = 4 ∧ iT.getD 286 [] = [0] := by decide +kernel
theorem cel_287 : kT.getD 287 0 = 14 ∧ lT.getD 287 0 = 6 ∧ pT.getD 287 0 = 6 ∧ iT.getD 287 [] = [-1] := by decide +kernel
theorem cel_288 : kT.getD 288 0 = 5 ∧ lT.getD 288 0 = 0 ∧ pT.getD 288 0 = 9 ∧ iT.getD 288 [] = [0, 0, ((288 : Nat) : Int) + 1, ((288 : Nat) : Int) + 2, ((288 : Nat) : Int) + 3, ((288 : Nat) : Int) + 4, ((288 : Nat) : Int) + 5, ((288 : Nat) : Int) + 6, ((288 : Nat) : Int) + 7] := by decide +kernel
theorem cel_289 : kT.getD 289 0 = 14 ∧ lT.getD 289 0 = 5 ∧ pT.getD 289 0 = 5 ∧ iT.getD 289 [] = [0] := by decide +kernel
theorem cel_290 : kT.getD 290 0 = 14 ∧ lT.getD 290 0 = 5 ∧ pT.getD 290 0 = 5 ∧ iT.getD 290 [] = [0] := by decide +kernel
theorem cel_291 : kT.getD 291 0 = 14 ∧ lT.getD 291 0 = 5 ∧ pT.getD 291 0 = 5 ∧ iT.getD 291 [] = [0] := by decide +kernel
theorem cel_292 : kT.getD 292 0 = 14 ∧ lT.getD 292 0 = 4 ∧ pT.getD 292 0 = 4 ∧ iT.getD 292 [] = [-1] := by decide +kernel
theorem cel_293 : kT.getD 293 0 = 14 ∧ lT.getD 293 0 = 4 ∧ pT.getD 293 0 = 4 ∧ iT.getD 293 [] = [-1] := by decide +kernel
theorem cel_294 : kT.getD 294 0 = 14 ∧ lT.getD 294 0 = 4 ∧ pT.getD 294 0 = 4 ∧ iT.getD 294 [] = [0] := by decide +kernel
theorem cel_295 : kT.getD 295 0 = 14 ∧ lT.getD 295 0 = 6 ∧ pT.getD 295 0 = 6 ∧ iT.getD 295 [] = [-1] := by decide +kernel
theorem cel_296 : kT.getD 296 0 = 5 ∧ lT.getD 296 0 = 0 ∧ pT.getD 296 0 = 9 ∧ iT.getD 296 [] = [0, 0, ((296 : Nat) : Int) + 1, ((296 : Nat) : Int) + 2, ((296 : Nat) : Int) + 3, ((296 : Nat) : Int) + 4, ((296 : Nat) : Int) + 5, ((296 : Nat) : Int) + 6, ((296 : Nat) : Int) + 7] := by decide +kernel
theorem cel_297 : kT.getD 297 0 = 14 ∧ lT.getD 297 0 = 5 ∧ pT.getD 297 0 = 5 ∧ iT.getD 297 [] = [0] := by decide +kernel
theorem cel_298 : kT.getD 298 0 = 14 ∧ lT.getD 298 0 = 5 ∧ pT.getD 298 0 = 5 ∧ iT.getD 298 [] = [0] := by decide +kernel
theorem cel_299 : kT.getD 299 0 = 14 ∧ lT.getD 299 0 = 5 ∧ pT.getD 299 0 = 5 ∧ iT.getD 299 [] = [0] := by decide +kernel
theorem cel_300 : kT.getD 300 0 = 14 ∧ lT.getD 300 0 = 4 ∧ pT.getD 300 0 = 4 ∧ iT.getD 300 [] = [-1] := by decide +kernel
theorem cel_301 : kT.getD 301 0 = 14 ∧ lT.getD 301 0 = 4 ∧ pT.getD 301 0 = 4 ∧ iT.getD 301 [] = [-1] := by decide +kernel
theorem cel_302 : kT.getD 302 0 = 14 ∧ lT.getD 302 0 = 4 ∧ pT.getD 302 0 = 4 ∧ iT.getD 302 [] = [0] := by decide +kernel
theorem cel_303 : kT.getD 303 0 = 14 ∧ lT.getD 303 0 = 6 ∧ pT.getD 303 0 = 6 ∧ iT.getD 303 [] = [-1] := by decide +kernel
theorem cel_304 : kT.getD 304 0 = 5 ∧ lT.getD 304 0 = 0 ∧ pT.getD 304 0 = 9 ∧ iT.getD 304 [] = [0, 0, ((304 : Nat) : Int) + 1, ((304 : Nat) : Int) + 2, ((304 : Nat) : Int) + 3, ((304 : Nat) : Int) + 4, ((304 : Nat) : Int) + 5, ((304 : Nat) : Int) + 6, ((304 : Nat) : Int) + 7] := by decide +kernel
theorem cel_305 : kT.getD 305 0 = 14 ∧ lT.getD 305 0 = 5 ∧ pT.getD 305 0 = 5 ∧ iT.getD 305 [] = [0] := by decide +kernel
theorem cel_306 : kT.getD 306 0 = 14 ∧ lT.getD 306 0 = 5 ∧ pT.getD 306 0 = 5 ∧ iT.getD 306 [] = [0] := by decide +kernel
theorem cel_307 : kT.getD 307 0 = 14 ∧ lT.getD 307 0 = 5 ∧ pT.getD 307 0 = 5 ∧ iT.getD 307 [] = [0] := by decide +kernel
theorem cel_308 : kT.getD 308 0 = 14 ∧ lT.getD 308 0 = 4 ∧ pT.getD 308 0 = 4 ∧ iT.getD 308 [] = [-1] := by decide +kernel
theorem cel_309 : kT.getD 309 0 = 14 ∧ lT.getD 309 0 = 4 ∧ pT.getD 309 0 = 4 ∧ iT.getD 309 [] = [-1] := by decide +kernel
theorem cel_310 : kT.getD 310 0 = 14 ∧ lT.getD 310 0 = 4 ∧ pT.getD 310 0 = 4 ∧ iT.getD 310 [] = [0] := by decide +kernel
theorem cel_311 : kT.getD 311 0 = 14 ∧ lT.getD 311 0 = 6 ∧ pT.getD 311 0 = 6 ∧ iT.getD 311 [] = [-1] := by decide +kernel
theorem cel_312 : kT.getD 312 0 = 5 ∧ lT.getD 312 0 = 0 ∧ pT.getD 312 0 = 9 ∧ iT.getD 312 [] = [0, 0, ((312 : Nat) : Int) + 1, ((312 : Nat) : Int) + 2, ((312 : Nat) : Int) + 3, ((312 : Nat) : Int) + 4, ((312 : Nat) : Int) + 5, ((312 : Nat) : Int) + 6, ((312 : Nat) : Int) + 7] := by decide +kernel
theorem cel_313 : kT.getD 313 0 = 14 ∧ lT.getD 313 0 = 5 ∧ pT.getD 313 0 = 5 ∧ iT.getD 313 [] = [0] := by decide +kernel
theorem cel_314 : kT.getD 314 0 = 14 ∧ lT.getD 314 0 = 5 ∧ pT.getD 314 0 = 5 ∧ iT.getD 314 [] = [0] := by decide +kernel
theorem cel_315 : kT.getD 315 0 = 14 ∧ lT.getD 315 0 = 5 ∧ pT.getD 315 0 = 5 ∧ iT.getD 315 [] = [0] := by decide +kernel
theorem cel_316 : kT.getD 316 0 = 14 ∧ lT.getD 316 0 = 4 ∧ pT.getD 316 0 = 4 ∧ iT.getD 316 [] = [-1] := by decide +kernel
theorem cel_317 : kT.getD 317 0 = 14 ∧ lT.getD 317 0 = 4 ∧ pT.getD 317 0 = 4 ∧ iT.getD 317 [] = [-1] := by decide +kernel
theorem cel_318 : kT.getD 318 0 = 14 ∧ lT.getD 318 0 = 4 ∧ pT.getD 318 0 = 4 ∧ iT.getD 318 [] = [0] := by decide +kernel
theorem cel_319 : kT.getD 319 0 = 14 ∧ lT.getD 319 0 = 6 ∧ pT.getD 319 0 = 6 ∧ iT.getD 319 [] = [-1] := by decide +kernel
theorem cel_320 : kT.getD 320 0 = 5 ∧ lT.getD 320 0 = 0 ∧ pT.getD 320 0 = 9 ∧ iT.getD 320 [] = [0, 0, ((320 : Nat) : Int) + 1, ((320 : Nat) : Int) + 2, ((320 : Nat) : Int) + 3, ((320 : Nat) : Int) + 4, ((320 : Nat) : Int) + 5, ((320 : Nat) : Int) + 6, ((320 : Nat) : Int) + 7] := by decide +kernel
theorem cel_321 : kT.getD 321 0 = 14 ∧ lT.getD 321 0 = 5 ∧ pT.getD 321 0 = 5 ∧ iT.getD 321 [] = [0] := by decide +kernel
theorem cel_322 : kT.getD 322 0 = 14 ∧ lT.getD 322 0 = 5 ∧ pT.getD 322 0 = 5 ∧ iT.getD 322 [] = [0] := by decide +kernel
theorem cel_323 : kT.getD 323 0 = 14 ∧ lT.getD 323 0 = 5 ∧ pT.getD 323 0 = 5 ∧ iT.getD 323 [] = [0] := by decide +kernel
theorem cel_324 : kT.getD 324 0 = 14 ∧ lT.getD 324 0 = 4 ∧ pT.getD 324 0 = 4 ∧ iT.getD 324 [] = [-1] := by decide +kernel
theorem cel_325 : kT.getD 325 0 = 14 ∧ lT.getD 325 0 = 4 ∧ pT.getD 325 0 = 4 ∧ iT.getD 325 [] = [-1] := by decide +kernel
theorem cel_326 : kT.getD 326 0 = 14 ∧ lT.getD 326 0 = 4 ∧ pT.getD 326 0 = 4 ∧ iT.getD 326 [] = [0] := by decide +kernel
theorem cel_327 : kT.getD 327 0 = 14 ∧ lT.getD 327 0 = 6 ∧ pT.getD 327 0 = 6 ∧ iT.getD 327 [] = [-1] := by decide +kernel
theorem cel_328 : kT.getD 328 0 = 5 ∧ lT.getD 328 0 = 0 ∧ pT.getD 328 0 = 9 ∧ iT.getD 328 [] = [0, 0, ((328 : Nat) : Int) + 1, ((328 : Nat) : Int) + 2, ((328 : Nat) : Int) + 3, ((328 : Nat) : Int) + 4, ((328 : Nat) : Int) + 5, ((328 : Nat) : Int) + 6, ((328 : Nat) : Int) + 7] := by decide +kernel
theorem cel_329 : kT.getD 329 0 = 14 ∧ lT.getD 329 0 = 5 ∧ pT.getD 329 0 = 5 ∧ iT.getD 329 [] = [0] := by decide +kernel
theorem cel_330 : kT.getD 330 0 = 14 ∧ lT.getD 330 0 = 5 ∧ pT.getD 330 0 = 5 ∧ iT.getD 330 [] = [0] := by decide +kernel
theorem cel_331 : kT.getD 331 0 = 14 ∧ lT.getD 331 0 = 5 ∧ pT.getD 331 0 = 5 ∧ iT.getD 331 [] = [0] := by decide +kernel
theorem cel_332 : kT.getD 332 0 = 14 ∧ lT.getD 332 0 = 4 ∧ pT.getD 332 0 = 4 ∧ iT.getD 332 [] = [-1] := by decide +kernel
theorem cel_333 : kT.getD 333 0 = 14 ∧ lT.getD 333 0 = 4 ∧ pT.getD 333 0 = 4 ∧ iT.getD 333 [] = [-1] := by decide +kernel
theorem cel_334 : kT.getD 334 0 = 14 ∧ lT.getD 334 0 = 4 ∧ pT.getD 334 0 = 4 ∧ iT.getD 334 [] = [0] := by decide +kernel
theorem cel_335 : kT.getD 335 0 = 14 ∧ lT.getD 335 0 = 6 ∧ pT.getD 335 0 = 6 ∧ iT.getD 335 [] = [-1] := by decide +kernel
theorem cel_336 : kT.getD 336 0 = 12 ∧ lT.getD 336 0 = 0 ∧ pT.getD 336 0 = 38 ∧ iT.getD 336 [] = [337, 0, 0, 338, 339, 340, 341, 342, 0, 0, 0, 0, 0, 0, 0, 343, 0, 344, 0, 345, 346, -1, 0, 0, 347, 0, 348, 349, 350, 0, 351, 352, 353, 0, 354, 355, 356, 357] := by decide +kernel
theorem cel_337 : kT.getD 337 0 = 13 ∧ lT.getD 337 0 = 400 ∧ pT.getD 337 0 = 400 ∧ iT.getD 337 [] = [0] := by decide +kernel
theorem cel_338 : kT.getD 338 0 = 14 ∧ lT.getD 338 0 = 2400 ∧ pT.getD 338 0 = 2400 ∧ iT.getD 338 [] = [0] := by decide +kernel
theorem cel_339 : kT.getD 339 0 = 14 ∧ lT.getD 339 0 = 7 ∧ pT.getD 339 0 = 7 ∧ iT.getD 339 [] = [0] := by decide +kernel
theorem cel_340 : kT.getD 340 0 = 14 ∧ lT.getD 340 0 = 288 ∧ pT.getD 340 0 = 288 ∧ iT.getD 340 [] = [0] := by decide +kernel
theorem cel_341 : kT.getD 341 0 = 14 ∧ lT.getD 341 0 = 6 ∧ pT.getD 341 0 = 6 ∧ iT.getD 341 [] = [0] := by decide +kernel
theorem cel_342 : kT.getD 342 0 = 14 ∧ lT.getD 342 0 = 117 ∧ pT.getD 342 0 = 117 ∧ iT.getD 342 [] = [0] := by decide +kernel
theorem cel_343 : kT.getD 343 0 = 14 ∧ lT.getD 343 0 = 400 ∧ pT.getD 343 0 = 400 ∧ iT.getD 343 [] = [0] := by decide +kernel
theorem cel_344 : kT.getD 344 0 = 16 ∧ lT.getD 344 0 = 64 ∧ pT.getD 344 0 = 64 ∧ iT.getD 344 [] = [0] := by decide +kernel
theorem cel_345 : kT.getD 345 0 = 16 ∧ lT.getD 345 0 = 10 ∧ pT.getD 345 0 = 10 ∧ iT.getD 345 [] = [0] := by decide +kernel
theorem cel_346 : kT.getD 346 0 = 14 ∧ lT.getD 346 0 = 158 ∧ pT.getD 346 0 = 158 ∧ iT.getD 346 [] = [0] := by decide +kernel
theorem cel_347 : kT.getD 347 0 = 14 ∧ lT.getD 347 0 = 1140 ∧ pT.getD 347 0 = 1140 ∧ iT.getD 347 [] = [0] := by decide +kernel
theorem cel_348 : kT.getD 348 0 = 14 ∧ lT.getD 348 0 = 57 ∧ pT.getD 348 0 = 57 ∧ iT.getD 348 [] = [0] := by decide +kernel
theorem cel_349 : kT.getD 349 0 = 14 ∧ lT.getD 349 0 = 6 ∧ pT.getD 349 0 = 6 ∧ iT.getD 349 [] = [0] := by decide +kernel
theorem cel_350 : kT.getD 350 0 = 14 ∧ lT.getD 350 0 = 6 ∧ pT.getD 350 0 = 6 ∧ iT.getD 350 [] = [0] := by decide +kernel
theorem cel_351 : kT.getD 351 0 = 14 ∧ lT.getD 351 0 = 5 ∧ pT.getD 351 0 = 5 ∧ iT.getD 351 [] = [0] := by decide +kernel
theorem cel_352 : kT.getD 352 0 = 14 ∧ lT.getD 352 0 = 3913 ∧ pT.getD 352 0 = 3913 ∧ iT.getD 352 [] = [0] := by decide +kernel
theorem cel_353 : kT.getD 353 0 = 15 ∧ lT.getD 353 0 = 3913 ∧ pT.getD 353 0 = 3913 ∧ iT.getD 353 [] = [0] := by decide +kernel
theorem cel_354 : kT.getD 354 0 = 14 ∧ lT.getD 354 0 = 632 ∧ pT.getD 354 0 = 632 ∧ iT.getD 354 [] = [0] := by decide +kernel
theorem cel_355 : kT.getD 355 0 = 14 ∧ lT.getD 355 0 = 4 ∧ pT.getD 355 0 = 4 ∧ iT.getD 355 [] = [0] := by decide +kernel
theorem cel_356 : kT.getD 356 0 = 14 ∧ lT.getD 356 0 = 4 ∧ pT.getD 356 0 = 4 ∧ iT.getD 356 [] = [0] := by decide +kernel
theorem cel_357 : kT.getD 357 0 = 15 ∧ lT.getD 357 0 = 4 ∧ pT.getD 357 0 = 4 ∧ iT.getD 357 [] = [0] := by decide +kernel
