/-! THE FIRST STATE of the class, cell by cell -/
def zq4 (j : Nat) : Int := if j = 124 then 10 else if j = 120 then 10 else if j = 116 then 10 else if j = 112 then 10 else if j = 108 then 10 else if j = 104 then 10 else if j = 100 then 10 else if j = 96 then 10 else if j = 92 then 10 else if j = 88 then 10 else if j = 84 then 10 else if j = 80 then 10 else if j = 76 then 10 else if j = 72 then 10 else if j = 68 then 10 else if j = 64 then 10 else if j = 60 then 10 else if j = 56 then 10 else if j = 52 then 10 else if j = 48 then 10 else if j = 44 then 10 else if j = 40 then 10 else if j = 36 then 10 else if j = 32 then 10 else if j = 28 then 10 else if j = 24 then 10 else if j = 20 then 10 else if j = 16 then 10 else if j = 12 then 10 else if j = 8 then 10 else if j = 4 then 10 else if j = 0 then 10 else 0
theorem zq4_at : ∀ j, j < 128 → zq4 j = if j % 4 = 0 then 10 else 0 := by decide +kernel
set_option maxRecDepth 20000 in
theorem gk_0 {n : Int} {g : am_G} (j : Nat) : Gk95_0 n g 0 j = if j = 0 then clP n else g 0 j := rfl
set_option maxRecDepth 20000 in
theorem gk_1 {n : Int} {g : am_G} (j : Nat) : Gk95_0 n g 1 j = if j = 0 then (clP n) else 0 := rfl
set_option maxRecDepth 20000 in
theorem gk_2 {n : Int} {g : am_G} (j : Nat) : Gk95_0 n g 2 j = if 2 = 2 ∧ j < 148 then 10 else 0 := rfl
set_option maxRecDepth 20000 in
theorem gk_3 {n : Int} {g : am_G} (j : Nat) : Gk95_0 n g 3 j = if 3 = 3 ∧ j < 148 then 10 else 0 := rfl
set_option maxRecDepth 20000 in
theorem gk_4 {n : Int} {g : am_G} (j : Nat) : Gk95_0 n g 4 j = zq4 j := rfl
set_option maxRecDepth 20000 in
theorem gk_5 {n : Int} {g : am_G} (j : Nat) : Gk95_0 n g 5 j = 0 := rfl
set_option maxRecDepth 20000 in
theorem gk_6 {n : Int} {g : am_G} (j : Nat) : Gk95_0 n g 6 j = if j = 4 then (-1) else 0 := rfl
set_option maxRecDepth 20000 in
theorem gk_7 {n : Int} {g : am_G} (j : Nat) : Gk95_0 n g 7 j = 0 := rfl
set_option maxRecDepth 20000 in
theorem gk_8 {n : Int} {g : am_G} (j : Nat) : Gk95_0 n g 8 j = if 8 = 8 ∧ j < 24 then (-1) else 0 := rfl
set_option maxRecDepth 20000 in
theorem gk_9 {n : Int} {g : am_G} (j : Nat) : Gk95_0 n g 9 j = 0 := rfl
set_option maxRecDepth 20000 in
theorem gk_10 {n : Int} {g : am_G} (j : Nat) : Gk95_0 n g 10 j = if j = 16 then 35 else 0 := rfl
set_option maxRecDepth 20000 in
theorem gk_11 {n : Int} {g : am_G} (j : Nat) : Gk95_0 n g 11 j = 0 := rfl
set_option maxRecDepth 20000 in
theorem gk_12 {n : Int} {g : am_G} (j : Nat) : Gk95_0 n g 12 j = 0 := rfl
set_option maxRecDepth 20000 in
theorem gk_13 {n : Int} {g : am_G} (j : Nat) : Gk95_0 n g 13 j = 0 := rfl
set_option maxRecDepth 20000 in
theorem gk_14 {n : Int} {g : am_G} (j : Nat) : Gk95_0 n g 14 j = 0 := rfl
set_option maxRecDepth 20000 in
theorem gk_15 {n : Int} {g : am_G} (j : Nat) : Gk95_0 n g 15 j = if 15 = 15 ∧ j < 12 then (-1) else 0 := rfl
set_option maxRecDepth 20000 in
theorem gk_16 {n : Int} {g : am_G} (j : Nat) : Gk95_0 n g 16 j = 0 := rfl
set_option maxRecDepth 20000 in
theorem gk_17 {n : Int} {g : am_G} (j : Nat) : Gk95_0 n g 17 j = 0 := rfl
set_option maxRecDepth 20000 in
theorem gk_18 {n : Int} {g : am_G} (j : Nat) : Gk95_0 n g 18 j = 0 := rfl
set_option maxRecDepth 20000 in
theorem gk_19 {n : Int} {g : am_G} (j : Nat) : Gk95_0 n g 19 j = 0 := rfl
set_option maxRecDepth 20000 in
theorem gk_20 {n : Int} {g : am_G} (j : Nat) : Gk95_0 n g 20 j = 0 := rfl
set_option maxRecDepth 20000 in
theorem gk_21 {n : Int} {g : am_G} (j : Nat) : Gk95_0 n g 21 j = 0 := rfl
set_option maxRecDepth 20000 in
theorem gk_22 {n : Int} {g : am_G} (j : Nat) : Gk95_0 n g 22 j = 0 := rfl
set_option maxRecDepth 20000 in
theorem gk_23 {n : Int} {g : am_G} (j : Nat) : Gk95_0 n g 23 j = if j = 0 then 10 else 0 := rfl
set_option maxRecDepth 20000 in
theorem gk_24 {n : Int} {g : am_G} (j : Nat) : Gk95_0 n g 24 j = if j = 0 then (clP n) else 0 := rfl
set_option maxRecDepth 20000 in
theorem gk_25 {n : Int} {g : am_G} (j : Nat) : Gk95_0 n g 25 j = if 25 = 25 ∧ j < 148 then 10 else 0 := rfl
set_option maxRecDepth 20000 in
theorem gk_26 {n : Int} {g : am_G} (j : Nat) : Gk95_0 n g 26 j = if 26 = 26 ∧ j < 148 then 10 else 0 := rfl
set_option maxRecDepth 20000 in
theorem gk_27 {n : Int} {g : am_G} (j : Nat) : Gk95_0 n g 27 j = zq4 j := rfl
set_option maxRecDepth 20000 in
theorem gk_28 {n : Int} {g : am_G} (j : Nat) : Gk95_0 n g 28 j = 0 := rfl
set_option maxRecDepth 20000 in
theorem gk_29 {n : Int} {g : am_G} (j : Nat) : Gk95_0 n g 29 j = if j = 4 then (-1) else 0 := rfl
set_option maxRecDepth 20000 in
theorem gk_30 {n : Int} {g : am_G} (j : Nat) : Gk95_0 n g 30 j = 0 := rfl
set_option maxRecDepth 20000 in
theorem gk_31 {n : Int} {g : am_G} (j : Nat) : Gk95_0 n g 31 j = if 31 = 31 ∧ j < 24 then (-1) else 0 := rfl
set_option maxRecDepth 20000 in
theorem gk_32 {n : Int} {g : am_G} (j : Nat) : Gk95_0 n g 32 j = 0 := rfl
set_option maxRecDepth 20000 in
theorem gk_33 {n : Int} {g : am_G} (j : Nat) : Gk95_0 n g 33 j = if j = 16 then 35 else 0 := rfl
set_option maxRecDepth 20000 in
theorem gk_34 {n : Int} {g : am_G} (j : Nat) : Gk95_0 n g 34 j = 0 := rfl
set_option maxRecDepth 20000 in
theorem gk_35 {n : Int} {g : am_G} (j : Nat) : Gk95_0 n g 35 j = 0 := rfl
set_option maxRecDepth 20000 in
theorem gk_36 {n : Int} {g : am_G} (j : Nat) : Gk95_0 n g 36 j = 0 := rfl
set_option maxRecDepth 20000 in
theorem gk_37 {n : Int} {g : am_G} (j : Nat) : Gk95_0 n g 37 j = 0 := rfl
set_option maxRecDepth 20000 in
theorem gk_38 {n : Int} {g : am_G} (j : Nat) : Gk95_0 n g 38 j = if 38 = 38 ∧ j < 12 then (-1) else 0 := rfl
set_option maxRecDepth 20000 in
theorem gk_39 {n : Int} {g : am_G} (j : Nat) : Gk95_0 n g 39 j = 0 := rfl
set_option maxRecDepth 20000 in
theorem gk_40 {n : Int} {g : am_G} (j : Nat) : Gk95_0 n g 40 j = 0 := rfl
set_option maxRecDepth 20000 in
theorem gk_41 {n : Int} {g : am_G} (j : Nat) : Gk95_0 n g 41 j = 0 := rfl
set_option maxRecDepth 20000 in
theorem gk_42 {n : Int} {g : am_G} (j : Nat) : Gk95_0 n g 42 j = 0 := rfl
set_option maxRecDepth 20000 in
theorem gk_43 {n : Int} {g : am_G} (j : Nat) : Gk95_0 n g 43 j = 0 := rfl
set_option maxRecDepth 20000 in
theorem gk_44 {n : Int} {g : am_G} (j : Nat) : Gk95_0 n g 44 j = 0 := rfl
set_option maxRecDepth 20000 in
theorem gk_45 {n : Int} {g : am_G} (j : Nat) : Gk95_0 n g 45 j = 0 := rfl
set_option maxRecDepth 20000 in
theorem gk_46 {n : Int} {g : am_G} (j : Nat) : Gk95_0 n g 46 j = if j = 0 then 10 else 0 := rfl
set_option maxRecDepth 20000 in
theorem gk_47 {n : Int} {g : am_G} (j : Nat) : Gk95_0 n g 47 j = if j = 3 then (-1) else if j = 2 then (-1) else 0 := rfl
set_option maxRecDepth 20000 in
theorem gk_48 {n : Int} {g : am_G} (j : Nat) : Gk95_0 n g 48 j = 0 := rfl
set_option maxRecDepth 20000 in
theorem gk_49 {n : Int} {g : am_G} (j : Nat) : Gk95_0 n g 49 j = 0 := rfl
set_option maxRecDepth 20000 in
theorem gk_50 {n : Int} {g : am_G} (j : Nat) : Gk95_0 n g 50 j = 0 := rfl
set_option maxRecDepth 20000 in
theorem gk_51 {n : Int} {g : am_G} (j : Nat) : Gk95_0 n g 51 j = 0 := rfl
set_option maxRecDepth 20000 in
theorem gk_52 {n : Int} {g : am_G} (j : Nat) : Gk95_0 n g 52 j = if j = 3 then (clP n) else 0 := rfl
set_option maxRecDepth 20000 in
theorem gk_53 {n : Int} {g : am_G} (j : Nat) : Gk95_0 n g 53 j = 0 := rfl
set_option maxRecDepth 20000 in
theorem gk_54 {n : Int} {g : am_G} (j : Nat) : Gk95_0 n g 54 j = if j = 0 then (clP n) else 0 := rfl
set_option maxRecDepth 20000 in
theorem gk_55 {n : Int} {g : am_G} (j : Nat) : Gk95_0 n g 55 j = 0 := rfl
set_option maxRecDepth 20000 in
theorem gk_56 {n : Int} {g : am_G} (j : Nat) : Gk95_0 n g 56 j = 0 := rfl
set_option maxRecDepth 20000 in
theorem gk_57 {n : Int} {g : am_G} (j : Nat) : Gk95_0 n g 57 j = 0 := rfl
set_option maxRecDepth 20000 in
theorem gk_58 {n : Int} {g : am_G} (j : Nat) : Gk95_0 n g 58 j = 0 := rfl
set_option maxRecDepth 20000 in
theorem gk_59 {n : Int} {g : am_G} (j : Nat) : Gk95_0 n g 59 j = 0 := rfl
set_option maxRecDepth 20000 in
theorem gk_60 {n : Int} {g : am_G} (j : Nat) : Gk95_0 n g 60 j = 0 := rfl
set_option maxRecDepth 20000 in
theorem gk_61 {n : Int} {g : am_G} (j : Nat) : Gk95_0 n g 61 j = 0 := rfl
set_option maxRecDepth 20000 in
theorem gk_62 {n : Int} {g : am_G} (j : Nat) : Gk95_0 n g 62 j = 0 := rfl
set_option maxRecDepth 20000 in
theorem gk_63 {n : Int} {g : am_G} (j : Nat) : Gk95_0 n g 63 j = 0 := rfl
set_option maxRecDepth 20000 in
theorem gk_64 {n : Int} {g : am_G} (j : Nat) : Gk95_0 n g 64 j = 0 := rfl
set_option maxRecDepth 20000 in
theorem gk_65 {n : Int} {g : am_G} (j : Nat) : Gk95_0 n g 65 j = 0 := rfl
set_option maxRecDepth 20000 in
theorem gk_66 {n : Int} {g : am_G} (j : Nat) : Gk95_0 n g 66 j = 0 := rfl
set_option maxRecDepth 20000 in
theorem gk_67 {n : Int} {g : am_G} (j : Nat) : Gk95_0 n g 67 j = 0 := rfl
set_option maxRecDepth 20000 in
theorem gk_68 {n : Int} {g : am_G} (j : Nat) : Gk95_0 n g 68 j = 0 := rfl
set_option maxRecDepth 20000 in
theorem gk_69 {n : Int} {g : am_G} (j : Nat) : Gk95_0 n g 69 j = 0 := rfl
set_option maxRecDepth 20000 in
theorem gk_70 {n : Int} {g : am_G} (j : Nat) : Gk95_0 n g 70 j = 0 := rfl
set_option maxRecDepth 20000 in
theorem gk_71 {n : Int} {g : am_G} (j : Nat) : Gk95_0 n g 71 j = 0 := rfl
set_option maxRecDepth 20000 in
theorem gk_72 {n : Int} {g : am_G} (j : Nat) : Gk95_0 n g 72 j = 0 := rfl
set_option maxRecDepth 20000 in
theorem gk_73 {n : Int} {g : am_G} (j : Nat) : Gk95_0 n g 73 j = 0 := rfl
set_option maxRecDepth 20000 in
theorem gk_74 {n : Int} {g : am_G} (j : Nat) : Gk95_0 n g 74 j = 0 := rfl
set_option maxRecDepth 20000 in
theorem gk_75 {n : Int} {g : am_G} (j : Nat) : Gk95_0 n g 75 j = 0 := rfl
set_option maxRecDepth 20000 in
theorem gk_76 {n : Int} {g : am_G} (j : Nat) : Gk95_0 n g 76 j = 0 := rfl
set_option maxRecDepth 20000 in
theorem gk_77 {n : Int} {g : am_G} (j : Nat) : Gk95_0 n g 77 j = 0 := rfl
set_option maxRecDepth 20000 in
theorem gk_78 {n : Int} {g : am_G} (j : Nat) : Gk95_0 n g 78 j = 0 := rfl
set_option maxRecDepth 20000 in
theorem gk_79 {n : Int} {g : am_G} (j : Nat) : Gk95_0 n g 79 j = 0 := rfl
set_option maxRecDepth 20000 in
theorem gk_80 {n : Int} {g : am_G} (j : Nat) : Gk95_0 n g 80 j = 0 := rfl
set_option maxRecDepth 20000 in
theorem gk_81 {n : Int} {g : am_G} (j : Nat) : Gk95_0 n g 81 j = 0 := rfl
set_option maxRecDepth 20000 in
theorem gk_82 {n : Int} {g : am_G} (j : Nat) : Gk95_0 n g 82 j = 0 := rfl
set_option maxRecDepth 20000 in
theorem gk_83 {n : Int} {g : am_G} (j : Nat) : Gk95_0 n g 83 j = 0 := rfl
set_option maxRecDepth 20000 in
theorem gk_84 {n : Int} {g : am_G} (j : Nat) : Gk95_0 n g 84 j = 0 := rfl
set_option maxRecDepth 20000 in
theorem gk_85 {n : Int} {g : am_G} (j : Nat) : Gk95_0 n g 85 j = 0 := rfl
set_option maxRecDepth 20000 in
theorem gk_86 {n : Int} {g : am_G} (j : Nat) : Gk95_0 n g 86 j = 0 := rfl
set_option maxRecDepth 20000 in
theorem gk_87 {n : Int} {g : am_G} (j : Nat) : Gk95_0 n g 87 j = 0 := rfl
set_option maxRecDepth 20000 in
theorem gk_88 {n : Int} {g : am_G} (j : Nat) : Gk95_0 n g 88 j = 0 := rfl
set_option maxRecDepth 20000 in
theorem gk_89 {n : Int} {g : am_G} (j : Nat) : Gk95_0 n g 89 j = 0 := rfl
set_option maxRecDepth 20000 in
theorem gk_90 {n : Int} {g : am_G} (j : Nat) : Gk95_0 n g 90 j = 0 := rfl
set_option maxRecDepth 20000 in
theorem gk_91 {n : Int} {g : am_G} (j : Nat) : Gk95_0 n g 91 j = 0 := rfl
set_option maxRecDepth 20000 in
theorem gk_92 {n : Int} {g : am_G} (j : Nat) : Gk95_0 n g 92 j = 0 := rfl
set_option maxRecDepth 20000 in
theorem gk_93 {n : Int} {g : am_G} (j : Nat) : Gk95_0 n g 93 j = 0 := rfl
set_option maxRecDepth 20000 in
theorem gk_94 {n : Int} {g : am_G} (j : Nat) : Gk95_0 n g 94 j = 0 := rfl
set_option maxRecDepth 20000 in
theorem gk_95 {n : Int} {g : am_G} (j : Nat) : Gk95_0 n g 95 j = 0 := rfl
set_option maxRecDepth 20000 in
theorem gk_96 {n : Int} {g : am_G} (j : Nat) : Gk95_0 n g 96 j = 0 := rfl
set_option maxRecDepth 20000 in
theorem gk_97 {n : Int} {g : am_G} (j : Nat) : Gk95_0 n g 97 j = 0 := rfl
set_option maxRecDepth 20000 in
theorem gk_98 {n : Int} {g : am_G} (j : Nat) : Gk95_0 n g 98 j = 0 := rfl
set_option maxRecDepth 20000 in
theorem gk_99 {n : Int} {g : am_G} (j : Nat) : Gk95_0 n g 99 j = 0 := rfl
set_option maxRecDepth 20000 in
theorem gk_100 {n : Int} {g : am_G} (j : Nat) : Gk95_0 n g 100 j = 0 := rfl
set_option maxRecDepth 20000 in
theorem gk_101 {n : Int} {g : am_G} (j : Nat) : Gk95_0 n g 101 j = 0 := rfl
set_option maxRecDepth 20000 in
theorem gk_102 {n : Int} {g : am_G} (j : Nat) : Gk95_0 n g 102 j = 0 := rfl
set_option maxRecDepth 20000 in
theorem gk_103 {n : Int} {g : am_G} (j : Nat) : Gk95_0 n g 103 j = if j = 0 then (clP n) else 0 := rfl
set_option maxRecDepth 20000 in
theorem gk_104 {n : Int} {g : am_G} (j : Nat) : Gk95_0 n g 104 j = 0 := rfl
set_option maxRecDepth 20000 in
theorem gk_105 {n : Int} {g : am_G} (j : Nat) : Gk95_0 n g 105 j = 0 := rfl
set_option maxRecDepth 20000 in
theorem gk_106 {n : Int} {g : am_G} (j : Nat) : Gk95_0 n g 106 j = 0 := rfl
set_option maxRecDepth 20000 in
theorem gk_107 {n : Int} {g : am_G} (j : Nat) : Gk95_0 n g 107 j = 0 := rfl
set_option maxRecDepth 20000 in
theorem gk_108 {n : Int} {g : am_G} (j : Nat) : Gk95_0 n g 108 j = 0 := rfl
set_option maxRecDepth 20000 in
theorem gk_109 {n : Int} {g : am_G} (j : Nat) : Gk95_0 n g 109 j = 0 := rfl
set_option maxRecDepth 20000 in
theorem gk_110 {n : Int} {g : am_G} (j : Nat) : Gk95_0 n g 110 j = 0 := rfl
set_option maxRecDepth 20000 in
theorem gk_111 {n : Int} {g : am_G} (j : Nat) : Gk95_0 n g 111 j = 0 := rfl
set_option maxRecDepth 20000 in
theorem gk_112 {n : Int} {g : am_G} (j : Nat) : Gk95_0 n g 112 j = 0 := rfl
set_option maxRecDepth 20000 in
theorem gk_113 {n : Int} {g : am_G} (j : Nat) : Gk95_0 n g 113 j = 0 := rfl
set_option maxRecDepth 20000 in
theorem gk_114 {n : Int} {g : am_G} (j : Nat) : Gk95_0 n g 114 j = 0 := rfl
set_option maxRecDepth 20000 in
theorem gk_115 {n : Int} {g : am_G} (j : Nat) : Gk95_0 n g 115 j = 0 := rfl
set_option maxRecDepth 20000 in
theorem gk_116 {n : Int} {g : am_G} (j : Nat) : Gk95_0 n g 116 j = 0 := rfl
set_option maxRecDepth 20000 in
theorem gk_117 {n : Int} {g : am_G} (j : Nat) : Gk95_0 n g 117 j = 0 := rfl
set_option maxRecDepth 20000 in
theorem gk_118 {n : Int} {g : am_G} (j : Nat) : Gk95_0 n g 118 j = 0 := rfl
set_option maxRecDepth 20000 in
theorem gk_119 {n : Int} {g : am_G} (j : Nat) : Gk95_0 n g 119 j = 0 := rfl
set_option maxRecDepth 20000 in
theorem gk_120 {n : Int} {g : am_G} (j : Nat) : Gk95_0 n g 120 j = 0 := rfl
set_option maxRecDepth 20000 in
theorem gk_121 {n : Int} {g : am_G} (j : Nat) : Gk95_0 n g 121 j = 0 := rfl
set_option maxRecDepth 20000 in
theorem gk_122 {n : Int} {g : am_G} (j : Nat) : Gk95_0 n g 122 j = 0 := rfl
set_option maxRecDepth 20000 in
theorem gk_123 {n : Int} {g : am_G} (j : Nat) : Gk95_0 n g 123 j = 0 := rfl
set_option maxRecDepth 20000 in
theorem gk_124 {n : Int} {g : am_G} (j : Nat) : Gk95_0 n g 124 j = 0 := rfl
set_option maxRecDepth 20000 in
theorem gk_125 {n : Int} {g : am_G} (j : Nat) : Gk95_0 n g 125 j = 0 := rfl
set_option maxRecDepth 20000 in
theorem gk_126 {n : Int} {g : am_G} (j : Nat) : Gk95_0 n g 126 j = 0 := rfl
